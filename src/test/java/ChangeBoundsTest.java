/** Promises 7 to 13, sentence by sentence at their edges: the changes of walkers and gates. */
public final class ChangeBoundsTest {
    private static final Class<IllegalStateException> NOT_NOW = IllegalStateException.class;

    public static void main(String[] args) {
        addWalker();
        removeWalker();
        removeWalkerReturns();
        step();
        stepReturns();
        stepRefuses();
        walkWord();
        walkWordStopsBeforeWhatIsNoLetter();
        walkWordStopsBeforeAClosedStreet();
        walkWordEmptiesTheInput();
        walkWordReturns();
        restartWalker();
        setGate();
        setGateReturns();
        setNight();
        Sentences.allOpened(7, 13);
        Due.end();
    }

    private static StreetAutomata closed() {
        StreetAutomata automata = Edges.walkers(2);
        for (int street = 0; street < 6; street++) {
            automata.setGate(street, false, false);
        }
        return automata;
    }

    private static void addWalker() {
        for (int slot = 0; slot < 2; slot++) {
            StreetAutomata automata = new StreetAutomata();
            for (int walker = 0; walker < 6; walker++) {
                Sentences.open(7, "Returns the number of the walker.");
                Due.same("walker " + walker, automata.addWalker(slot), walker);
                Sentences.open(7, "Adds a walker.");
                Due.same("walkers", automata.walkerCount(), walker + 1);
                Due.same("slot", automata.walkerSlot(walker), slot);
                Due.same("state", automata.walkerState(walker), 0);
                Due.same("steps", automata.walkerSteps(walker), 0);
                Due.same("a change", automata.undoCount(), walker + 1);
            }
        }
        StreetAutomata again = Edges.walkers(6);
        again.step(5, 0);
        again.removeWalker(5);
        Due.same("in the place of one that left", again.addWalker(0), 5);
        Due.text("it begins anew", Due.gatesAndWalkers(again), "false1 oooooo 0/0/0 1/0/0 0/0/0 1/0/0 0/0/0 0/0/0");
        Edges.slot(7, "slot", (x, slot) -> x.addWalker(slot));
        Sentences.open(7, "Throws `IllegalStateException` if there are 6 walkers");
        Edges.answers("with 5", () -> Edges.walkers(5), x -> x.addWalker(1));
        Edges.refuses("with 6", NOT_NOW, () -> Edges.walkers(6), x -> x.addWalker(0));
        Edges.refuses("with 6", NOT_NOW, () -> Edges.walkers(6), x -> x.addWalker(1));
        Sentences.open("Changes and undo", "If several exceptions apply to a call, the one that is listed first is thrown.");
        for (int slot : new int[] {-1, 2, Integer.MIN_VALUE, Integer.MAX_VALUE}) {
            Edges.refuses("with 6, slot " + slot, Edges.NO_INDEX, () -> Edges.walkers(6), x -> x.addWalker(slot));
        }
    }

    private static void removeWalker() {
        Sentences.open(8, "Removes a walker.");
        for (int count = 1; count <= 6; count++) {
            for (int leaving = 0; leaving < count; leaving++) {
                StreetAutomata automata = Edges.walkers(count);
                StringBuilder due = new StringBuilder("false" + count + " oooooo");
                for (int walker = 0; walker < count; walker++) {
                    int state = automata.step(walker, walker % 4);
                    due.append(walker == leaving ? "" : " " + walker % 2 + "/" + state + "/1");
                }
                automata.removeWalker(leaving);
                Due.text(leaving + " of " + count, Due.gatesAndWalkers(automata), due.toString());
                Due.same("a change", automata.undo(), Math.min(2 * count, 7));
                Due.same("it is back", automata.walkerCount(), count);
            }
        }
        Edges.walker(8, "walker", (x, walker) -> x.removeWalker(walker));
    }

    private static void removeWalkerReturns() {
        Sentences.open(8, "Returns the number of steps that it made.");
        StreetAutomata automata = Edges.walkers(3);
        Due.same("none", automata.removeWalker(2), 0);
        automata.step(1, 0);
        Due.same("one", automata.removeWalker(1), 1);
        for (int times = 0; times < 3; times++) {
            Due.type(automata, "a".repeat(200));
            automata.walkWord(0);
        }
        Due.same("many", automata.removeWalker(0), 600);
        automata.addWalker(0);
        automata.step(0, 0);
        automata.restartWalker(0);
        Due.same("since it began anew", automata.removeWalker(0), 0);
    }

    private static void step() {
        Sentences.open(9, "Lets a walker make one step along a street.");
        for (int slot = 0; slot < 2; slot++) {
            for (int street = 0; street < 6; street++) {
                StreetAutomata automata = Edges.walkers(2);
                automata.step(slot, street);
                String moved = slot + "/" + automata.transition(slot, 0, street) + "/1";
                Due.text("street " + street, Due.gatesAndWalkers(automata),
                        slot == 0 ? "false1 oooooo " + moved + " 1/0/0" : "false1 oooooo 0/0/0 " + moved);
                Due.same("a change", automata.undo(), 2);
                Due.text("undone", Due.gatesAndWalkers(automata), "false0 oooooo 0/0/0 1/0/0");
            }
        }
        Edges.walker(9, "walker", (x, walker) -> x.step(walker, 0));
        Edges.street(9, (x, street) -> x.step(0, street));
    }

    private static void stepReturns() {
        Sentences.open(9, "Returns its state after the step.");
        StreetAutomata automata = Due.with(Edges.SIXTY_STATES, "a*");
        automata.addWalker(0);
        automata.addWalker(1);
        int state = 0;
        for (int street : new int[] {3, 0, 0, 0, 0, 0, 5, 4, 3, 2, 1, 0}) {
            int due = automata.transition(0, state, street);
            state = automata.step(0, street);
            Due.same("state", state, due);
            Due.same("state it is in", automata.walkerState(0), due);
        }
        Due.same("in the second slot", automata.step(1, 0), 1);
        Due.same("into the same state", automata.step(1, 0), 1);
        Due.same("into the dead state", automata.step(1, 1), automata.deadState(1));
        Due.same("in the dead state", automata.step(1, 0), automata.deadState(1));
        Due.same("steps", automata.walkerSteps(1), 4);
    }

    private static void stepRefuses() {
        Sentences.open(9, "Throws `IllegalStateException` if the street is not passable");
        for (int street = 0; street < 6; street++) {
            int along = street;
            Edges.refuses("by day " + street, NOT_NOW, ChangeBoundsTest::closed, x -> x.step(1, along));
            StreetAutomata night = closed();
            night.setNight(true);
            Due.same("open by night " + street, night.step(0, street), night.transition(0, 0, street));
            night.setGate(street, true, false);
            Due.refuses("closed by night " + street, NOT_NOW, () -> night.step(0, along));
            night.setNight(false);
            night.setGate(street, false, true);
            Due.same("open by day " + street, night.step(1, street), night.transition(1, 0, street));
        }
        Sentences.open("Changes and undo", "If several exceptions apply to a call, the one that is listed first is thrown.");
        for (int index : new int[] {-1, 6, Integer.MIN_VALUE, Integer.MAX_VALUE}) {
            Edges.refuses("no walker, closed", Edges.NO_INDEX, ChangeBoundsTest::closed, x -> x.step(index, 0));
            Edges.refuses("no street, closed", Edges.NO_INDEX, ChangeBoundsTest::closed, x -> x.step(0, index));
            Edges.refuses("neither, closed", Edges.NO_INDEX, ChangeBoundsTest::closed, x -> x.step(index, index));
        }
    }

    private static int walk(StreetAutomata automata, int walker, String word) {
        automata.truncateInput(0);
        Due.type(automata, word);
        return automata.walkWord(walker);
    }

    private static void walkWord() {
        Sentences.open(10, "Lets a walker walk the word in the input buffer, letter by letter.");
        StreetAutomata automata = Edges.walkers(2);
        walk(automata, 0, "abcd");
        Due.text("4 letters", Due.gatesAndWalkers(automata), "false4 oooooo 0/5/4 1/0/0");
        walk(automata, 1, "ababacac".repeat(25));
        Due.text("200 letters", Due.gatesAndWalkers(automata), "false204 oooooo 0/5/4 1/5/200");
        walk(automata, 1, "");
        Due.text("no letter", Due.gatesAndWalkers(automata), "false204 oooooo 0/5/4 1/5/200");
        Due.same("each is a change", automata.undo(), 4);
        automata.undo();
        Due.text("all its steps are undone at once", Due.gatesAndWalkers(automata), "false4 oooooo 0/5/4 1/0/0");
        walk(automata, 1, "abcdef");
        Due.same("through all streets", automata.walkerSteps(1), 6);
        Edges.walker(10, "walker", (x, walker) -> x.walkWord(walker));
    }

    private static void walkWordStopsBeforeWhatIsNoLetter() {
        Sentences.open(10, "It stops before the first byte that is not a letter a to f");
        for (int value = 0; value < 256; value++) {
            boolean isLetter = value >= 'a' && value <= 'f';
            StreetAutomata automata = Edges.walkers(1);
            Due.same("first is " + value, walk(automata, 0, (char) value + "ad"), isLetter ? 3 : 0);
            Due.same("middle is " + value, walk(automata, 0, "a" + (char) value + "d"), isLetter ? 3 : 1);
            Due.same("200th is " + value, walk(automata, 0, "a".repeat(199) + (char) value), isLetter ? 200 : 199);
        }
    }

    private static void walkWordStopsBeforeAClosedStreet() {
        Sentences.open(10, "and before the first street that is not passable.");
        for (int street = 0; street < 6; street++) {
            for (int time = 0; time < 2; time++) {
                StreetAutomata automata = Edges.walkers(1);
                automata.setGate(street, time == 1, false);
                Due.same("day", walk(automata, 0, "abcdef"), time == 0 ? street : 6);
                automata.setNight(true);
                Due.same("night", walk(automata, 0, "abcdef"), time == 1 ? street : 6);
                char letter = (char) ('a' + street);
                Due.same("what is no letter comes first", walk(automata, 0, "." + letter), 0);
            }
        }
        StreetAutomata automata = closed();
        Due.same("all closed", walk(automata, 1, "abcdef"), 0);
        Due.text("no step", Due.gatesAndWalkers(automata), "false0 cccccc 0/0/0 1/0/0");
        automata.setGate(5, false, true);
        Due.same("the last one closed", walk(automata, 1, "f".repeat(199) + "a"), 199);
        Due.same("only the last one open", walk(automata, 1, "f".repeat(200)), 200);
    }

    private static void walkWordEmptiesTheInput() {
        Sentences.open(10, "The input buffer is empty afterwards.");
        for (String word : new String[] {"", "a", "abcdef", "a.b", "\0", ".".repeat(200), "a".repeat(200)}) {
            for (StreetAutomata automata : new StreetAutomata[] {Edges.walkers(2), closed()}) {
                int before = automata.undoCount();
                walk(automata, 1, word);
                Due.same("after " + word, automata.inputLength(), 0);
                Due.same("a change, whatever was walked", automata.undoCount(), before + (before < 8 ? 1 : 0));
                automata.undo();
                Due.same("undo does not bring it back", automata.inputLength(), 0);
            }
        }
    }

    private static void walkWordReturns() {
        Sentences.open(10, "Returns the number of steps that were made by this call.");
        StreetAutomata automata = Edges.walkers(1);
        automata.step(0, 0);
        Due.same("none", walk(automata, 0, ""), 0);
        Due.same("one, the earlier one does not count", walk(automata, 0, "b"), 1);
        Due.same("into the dead state and on", walk(automata, 0, "aaa"), 3);
        Due.same("200", walk(automata, 0, "f".repeat(200)), 200);
        Due.same("in all", automata.walkerSteps(0), 205);
    }

    private static void restartWalker() {
        Sentences.open(11, "Lets a walker begin anew in state 0 with 0 steps.");
        StreetAutomata automata = Edges.walkers(6);
        for (int walker = 0; walker < 6; walker++) {
            automata.step(walker, 0);
        }
        automata.restartWalker(0);
        automata.restartWalker(5);
        Due.text("the first and the last", Due.gatesAndWalkers(automata),
                "false6 oooooo 0/0/0 1/1/1 0/1/1 1/1/1 0/1/1 1/0/0");
        Sentences.open(11, "Returns the state in which it was.");
        Due.same("0", automata.restartWalker(5), 0);
        Due.same("1", automata.restartWalker(4), 1);
        automata.step(1, 5);
        Due.same("the dead state", automata.restartWalker(1), 2);
        Due.same("each is a change, also from state 0", automata.undoCount(), 8);
        automata.undo();
        Due.same("undone", automata.walkerState(1) * 10 + automata.walkerSteps(1), 22);
        Edges.walker(11, "walker", (x, walker) -> x.restartWalker(walker));
    }

    private static String gates(StreetAutomata automata) {
        StringBuilder text = new StringBuilder();
        for (int time = 0; time < 2; time++) {
            automata.setNight(time == 1);
            for (int street = 0; street < 6; street++) {
                text.append(automata.isPassable(street) ? 'o' : 'c');
            }
        }
        automata.setNight(false);
        return text.toString();
    }

    private static void setGate() {
        for (int gate = 0; gate < 12; gate++) {
            Sentences.open(12, "Opens or closes a gate of a street.");
            StreetAutomata automata = new StreetAutomata();
            StringBuilder due = new StringBuilder("oooooooooooo");
            due.setCharAt(gate, 'c');
            automata.setGate(gate % 6, gate >= 6, false);
            Due.text("closed alone", gates(automata), due.toString());
            Sentences.open(12, "- `open`: whether the gate is open afterwards");
            automata.setGate(gate % 6, gate >= 6, true);
            Due.text("open again", gates(automata), "oooooooooooo");
            Sentences.open(12, "- `night`: true for its gate for the night, false for its gate for the day");
            for (int street = 0; street < 6; street++) {
                automata.setGate(street, gate >= 6, false);
            }
            Due.text("all of one time", gates(automata), gate < 6 ? "ccccccoooooo" : "oooooocccccc");
            due = new StringBuilder(gate < 6 ? "ccccccoooooo" : "oooooocccccc");
            due.setCharAt(gate, 'o');
            automata.setGate(gate % 6, gate >= 6, true);
            Due.text("open alone", gates(automata), due.toString());
        }
    }

    private static void setGateReturns() {
        Sentences.open(12, "Returns whether it was open before.");
        for (int gate = 0; gate < 12; gate++) {
            StreetAutomata automata = new StreetAutomata();
            boolean night = gate >= 6;
            Due.same("open, opened", automata.setGate(gate % 6, night, true), true);
            Due.same("open, closed", automata.setGate(gate % 6, night, false), true);
            Due.same("closed, closed", automata.setGate(gate % 6, night, false), false);
            Due.same("closed, opened", automata.setGate(gate % 6, night, true), false);
            Due.same("open once more", automata.setGate(gate % 6, night, false), true);
            Due.same("the one of the other time", automata.setGate(gate % 6, !night, true), true);
            Due.same("each is a change, also if it stays as it was", automata.undoCount(), 6);
        }
        Edges.street(12, (x, street) -> x.setGate(street, false, false));
        Edges.street(12, (x, street) -> x.setGate(street, true, true));
    }

    private static void setNight() {
        Sentences.open(13, "Makes it night or day.");
        StreetAutomata automata = new StreetAutomata();
        for (boolean night : new boolean[] {false, true, true, false, false, true}) {
            Sentences.open(13, "- `night`: whether it is night afterwards");
            automata.setNight(night);
            Due.same("isNight", automata.isNight(), night);
        }
        Due.same("each is a change, also if it stays as it was", automata.undoCount(), 6);
        automata.undo();
        Due.same("undone", automata.isNight(), false);
        Sentences.open(13, "Returns the number of streets that are passable afterwards.");
        for (int closed = 0; closed <= 6; closed++) {
            StreetAutomata gates = new StreetAutomata();
            for (int street = 0; street < closed; street++) {
                gates.setGate(street, true, false);
            }
            Due.same("by day", gates.setNight(false), 6);
            Due.same("by night", gates.setNight(true), 6 - closed);
            Due.same("by night again", gates.setNight(true), 6 - closed);
            Due.same("by day again", gates.setNight(false), 6);
        }
    }
}
