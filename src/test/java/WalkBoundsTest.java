/** Promises 46 to 58, sentence by sentence at their edges: asking for gates and walkers. */
public final class WalkBoundsTest {
    private static final int NONE = StreetAutomata.NONE;
    private static final String CHAIN = "a".repeat(24);

    public static void main(String[] args) {
        isPassable();
        isNight();
        walkerCount();
        walkerSlot();
        walkerState();
        walkerSteps();
        stepsHome();
        stepsHomeAlongPassableStreets();
        streetHome();
        streetHomeOfSeveral();
        walkersInState();
        meetingSteps();
        meetingStepsAlongPassableStreets();
        totalSteps();
        totalStepsTakenBack();
        homeShare();
        meanSetSize();
        Sentences.allOpened(46, 58);
        Due.end();
    }

    private static void isPassable() {
        Sentences.open(46, "Returns whether a street is passable now.");
        for (int street = 0; street < 6; street++) {
            for (int time = 0; time < 2; time++) {
                StreetAutomata automata = new StreetAutomata();
                automata.setNight(time == 1);
                Due.same("open at first", automata.isPassable(street), true);
                automata.setGate(street, time == 0, false);
                Due.same("closed at the other time", automata.isPassable(street), true);
                automata.setGate(street, time == 1, false);
                Due.same("closed now", automata.isPassable(street), false);
                for (int other = 0; other < 6; other++) {
                    Due.same("another street", automata.isPassable(other), other != street);
                }
                automata.undo();
                Due.same("undone", automata.isPassable(street), true);
            }
        }
        Edges.street(46, (x, street) -> x.isPassable(street));
    }

    private static void isNight() {
        Sentences.open(47, "Returns whether it is night.");
        StreetAutomata automata = new StreetAutomata();
        Due.same("at first", automata.isNight(), false);
        automata.saveSnapshot();
        automata.setNight(true);
        Due.same("night", automata.isNight(), true);
        automata.setNight(true);
        Due.same("night again", automata.isNight(), true);
        automata.setNight(false);
        Due.same("day", automata.isNight(), false);
        automata.undo();
        Due.same("undone", automata.isNight(), true);
        automata.restoreSnapshot();
        Due.same("restored", automata.isNight(), false);
    }

    private static void walkerCount() {
        Sentences.open(48, "Returns the number of walkers.");
        StreetAutomata automata = new StreetAutomata();
        Due.same("none", automata.walkerCount(), 0);
        for (int count = 1; count <= 6; count++) {
            automata.addWalker(count % 2);
            Due.same("some", automata.walkerCount(), count);
        }
        Due.answer(() -> automata.addWalker(0));
        Due.same("6, and a 7th was refused", automata.walkerCount(), 6);
        for (int count = 5; count >= 0; count--) {
            automata.removeWalker(count / 2);
            Due.same("fewer", automata.walkerCount(), count);
        }
        Due.answer(() -> automata.removeWalker(0));
        Due.same("none again", automata.walkerCount(), 0);
        automata.undo();
        Due.same("undone", automata.walkerCount(), 1);
    }

    private static void walkerSlot() {
        Sentences.open(49, "Returns the slot in which a walker walks.");
        for (int slots = 0; slots < 64; slots++) {
            StreetAutomata automata = new StreetAutomata();
            for (int walker = 0; walker < 6; walker++) {
                automata.addWalker(slots >> walker & 1);
            }
            for (int walker = 0; walker < 6; walker++) {
                Due.same("walker " + walker, automata.walkerSlot(walker), slots >> walker & 1);
            }
        }
        Edges.walker(49, "walker", (x, walker) -> x.walkerSlot(walker));
    }

    private static void walkerState() {
        Sentences.open(50, "Returns the state of a walker.");
        StreetAutomata automata = Due.with(CHAIN, CHAIN);
        automata.addWalker(0);
        automata.addWalker(1);
        for (int step = 0; step < 24; step++) {
            int due = step == 0 ? 0 : step == 1 ? 1 : step + 1;
            Due.same("of 0, steps " + step, automata.walkerState(0), due);
            Due.same("of 1, steps " + step, automata.walkerState(1), due);
            automata.step(0, 0);
            automata.step(1, 0);
        }
        Due.same("the last state", automata.walkerState(0), 25);
        automata.step(0, 0);
        Due.same("the dead state", automata.walkerState(0), 2);
        automata.restartWalker(0);
        Due.same("anew", automata.walkerState(0), 0);
        Edges.walker(50, "walker", (x, walker) -> x.walkerState(walker));
    }

    private static void walkerSteps() {
        Sentences.open(51, "Returns the number of steps that a walker has made since it began.");
        StreetAutomata automata = Edges.walkers(6);
        Due.same("none", automata.walkerSteps(5), 0);
        automata.step(5, 0);
        Due.same("one", automata.walkerSteps(5), 1);
        for (int times = 1; times <= 5; times++) {
            Due.type(automata, "f".repeat(200));
            automata.walkWord(5);
            Due.same("many", automata.walkerSteps(5), 1 + 200 * times);
        }
        Due.same("of another one", automata.walkerSteps(4), 0);
        automata.restartWalker(5);
        Due.same("anew", automata.walkerSteps(5), 0);
        automata.undo();
        Due.same("undone", automata.walkerSteps(5), 1001);
        automata.copyPattern(0);
        Due.same("a new pattern", automata.walkerSteps(5), 0);
        Edges.walker(51, "walker", (x, walker) -> x.walkerSteps(walker));
    }

    /** What a call answers for walker 0 in either slot, which has walked a word in a pattern. */
    private static void walked(String text, String word, Edges.Call call, int due) {
        for (int slot = 0; slot < 2; slot++) {
            StreetAutomata automata = slot == 0 ? Due.with(text, "c") : Due.with("c", text);
            automata.addWalker(slot);
            Due.type(automata, word);
            automata.walkWord(0);
            Due.text("\"" + word + "\" in \"" + text + "\"", "" + call.on(automata), "" + due);
        }
    }

    private static void stepsHome() {
        Sentences.open(52, "Returns the fewest steps along passable streets that take a walker home (0 if it is home)");
        Edges.Call call = x -> x.stepsHome(0);
        walked("", "", call, 0);
        walked("a*", "", call, 0);
        walked("a+", "", call, 1);
        walked("a+", "a", call, 0);
        walked("ab|bcd", "", call, 2);
        walked("ab|bcd", "b", call, 2);
        walked(CHAIN, "", call, 24);
        walked(CHAIN, "a".repeat(23), call, 1);
        walked(CHAIN, CHAIN, call, 0);
        walked("(ab)*", "abab", call, 0);
        Sentences.open(52, "NONE if it cannot come home along them.");
        walked("", "a", call, NONE);
        walked("ab", "b", call, NONE);
        walked(CHAIN, CHAIN + "a", call, NONE);
        Edges.walker(52, "walker", (x, walker) -> x.stepsHome(walker));
    }

    private static StreetAutomata between() {
        StreetAutomata automata = Due.with("f|ed|dcb", "");
        automata.addWalker(0);
        automata.addWalker(1);
        return automata;
    }

    private static void stepsHomeAlongPassableStreets() {
        Sentences.open(52, "Returns the fewest steps along passable streets");
        for (int time = 0; time < 2; time++) {
            StreetAutomata automata = between();
            automata.setNight(time == 1);
            Due.same("all open", automata.stepsHome(0), 1);
            automata.setGate(5, time == 1, false);
            Due.same("f is closed", automata.stepsHome(0), 2);
            automata.setGate(4, time == 1, false);
            Due.same("e is closed too", automata.stepsHome(0), 3);
            automata.setGate(1, time == 1, false);
            Due.same("b is closed too", automata.stepsHome(0), NONE);
            Due.same("street", automata.streetHome(0), NONE);
            Due.same("home already", automata.stepsHome(1), 0);
            automata.setNight(time == 0);
            Due.same("open at the other time", automata.stepsHome(0), 1);
            for (int street = 0; street < 6; street++) {
                automata.setGate(street, time == 0, false);
            }
            Due.same("all closed", automata.stepsHome(0), NONE);
            Due.same("home already, all closed", automata.stepsHome(1), 0);
        }
    }

    private static void streetHome() {
        Sentences.open(53, "Returns the street that begins a shortest way home along passable streets");
        Edges.Call call = x -> x.streetHome(0);
        for (int street = 0; street < 6; street++) {
            walked("" + (char) ('a' + street), "", call, street);
        }
        walked("aa|f", "", call, 5);
        walked("fa|eba", "", call, 5);
        walked("fa|eba", "f", call, 0);
        walked("fa|eba", "e", call, 1);
        walked("f" + "a".repeat(23), "", call, 5);
        Sentences.open(53, "NONE if the walker is home or cannot come home.");
        walked("", "", call, NONE);
        walked("a*", "aaa", call, NONE);
        walked("f", "f", call, NONE);
        walked("f", "a", call, NONE);
        walked("f", "ff", call, NONE);
        Edges.walker(53, "walker", (x, walker) -> x.streetHome(walker));
    }

    private static void streetHomeOfSeveral() {
        Sentences.open(53, "of several the first one in the alphabet");
        Edges.Call call = x -> x.streetHome(0);
        walked("f|e|d|c|b|a", "", call, 0);
        walked("f|e|d", "", call, 3);
        walked("fa|ef|ca", "", call, 2);
        walked("bf|ca", "", call, 1);
        walked("abf|baa|aba", "", call, 0);
        walked("..", "", call, 0);
        StreetAutomata automata = Due.with(".", "");
        automata.addWalker(0);
        for (int street = 0; street < 6; street++) {
            Due.same("the first one that is open", automata.streetHome(0), street);
            automata.setGate(street, false, false);
        }
        Due.same("none is open", automata.streetHome(0), NONE);
        automata.setNight(true);
        Due.same("all are open by night", automata.streetHome(0), 0);
    }

    private static void walkersInState() {
        Sentences.open(54, "Returns the number of walkers in a slot that are in a state.");
        for (int slot = 0; slot < 2; slot++) {
            StreetAutomata automata = new StreetAutomata();
            for (int count = 0; count <= 6; count++) {
                Due.same("in state 0", automata.walkersInState(slot, 0), count);
                Due.same("in the other slot", automata.walkersInState(1 - slot, 0), 0);
                if (count < 6) {
                    automata.addWalker(slot);
                }
            }
            for (int walker = 0; walker < 6; walker++) {
                automata.step(walker, 5);
                Due.same("in the dead state", automata.walkersInState(slot, 2), walker + 1);
                Due.same("left in state 0", automata.walkersInState(slot, 0), 5 - walker);
            }
            for (int left = 5; left >= 0; left--) {
                automata.removeWalker(0);
                Due.same("after some left", automata.walkersInState(slot, 2), left);
            }
            Due.same("in the last state", automata.walkersInState(slot, 5), 0);
        }
        Edges.slot(54, "slot", (x, slot) -> x.walkersInState(slot, 0));
        Edges.state(54, "state", (x, slot, state) -> x.walkersInState(slot, state));
    }

    private static void meeting(String zero, String zeroWord, String one, String oneWord, int due) {
        StreetAutomata automata = Due.with(zero, one);
        for (int walker = 0; walker < 2; walker++) {
            automata.addWalker(walker);
            Due.type(automata, walker == 0 ? zeroWord : oneWord);
            automata.walkWord(walker);
        }
        String what = zeroWord + " in " + zero + ", " + oneWord + " in " + one;
        Due.same(what, automata.meetingSteps(0, 1), due);
        Due.same(what + ", turned", automata.meetingSteps(1, 0), due);
    }

    private static void meetingSteps() {
        Sentences.open(55, "Returns how soon two walkers can be home at the same time if both walk the same streets.");
        Sentences.open(55, "Returns the fewest steps along passable streets after which both are home (0 if both are)");
        meeting("", "", "", "", 0);
        meeting("a*", "", "b*", "bb", 0);
        meeting("a*", "", "a+", "", 1);
        meeting("a", "", "aa", "a", 1);
        meeting("(aa)*", "", "(aaa)*", "aa", 4);
        meeting("(" + "a".repeat(23) + ")+", "", "(" + CHAIN + ")+", "", 552);
        meeting(CHAIN, "", ".*", "f", 24);
        Sentences.open(55, "NONE if that is not possible.");
        meeting("", "", "a", "", NONE);
        meeting("a", "", "b", "", NONE);
        meeting("a*", "b", "a*", "", NONE);
        meeting("(aa)*", "", "(aa)*", "a", NONE);
        meeting("a", "a", "ab", "a", NONE);
        Sentences.open(55, "- `other`: a walker, perhaps the same one");
        StreetAutomata automata = Due.with("ab", "c");
        automata.addWalker(0);
        Due.same("the same one", automata.meetingSteps(0, 0), 2);
        automata.step(0, 0);
        automata.step(0, 1);
        Due.same("the same one, home", automata.meetingSteps(0, 0), 0);
        automata.step(0, 1);
        Due.same("the same one, lost", automata.meetingSteps(0, 0), NONE);
        Edges.walker(55, "walker", (x, walker) -> x.meetingSteps(walker, 0));
        Edges.walker(55, "other", (x, walker) -> x.meetingSteps(0, walker));
        Edges.walker(55, "other", (x, walker) -> x.meetingSteps(walker, walker));
    }

    private static void meetingStepsAlongPassableStreets() {
        Sentences.open(55, "Returns the fewest steps along passable streets after which both are home");
        StreetAutomata automata = Due.with("a|bc", "a|bc|");
        automata.addWalker(0);
        automata.addWalker(1);
        Due.same("all open", automata.meetingSteps(0, 1), 1);
        automata.setGate(0, false, false);
        Due.same("a is closed", automata.meetingSteps(0, 1), 2);
        automata.setGate(2, false, false);
        Due.same("c is closed too", automata.meetingSteps(0, 1), NONE);
        for (int street = 0; street < 6; street++) {
            automata.setGate(street, false, false);
        }
        Due.same("both are home, all closed", automata.meetingSteps(1, 1), 0);
        automata.setNight(true);
        Due.same("open by night", automata.meetingSteps(1, 0), 1);
    }

    private static void totalSteps() {
        Sentences.open(56, "Returns the number of steps of all walkers, also of those that left, since the object was created");
        StreetAutomata automata = Edges.walkers(6);
        Due.same("none", automata.totalSteps(), 0);
        for (int walker = 0; walker < 6; walker++) {
            automata.step(walker, walker);
            Due.same("one each", automata.totalSteps(), walker + 1);
        }
        Due.type(automata, "a".repeat(200));
        automata.walkWord(0);
        Due.same("a word", automata.totalSteps(), 206);
        automata.restartWalker(0);
        automata.copyPattern(0);
        automata.compile(0);
        Due.same("some began anew", automata.totalSteps(), 206);
        for (int walker = 0; walker < 6; walker++) {
            automata.removeWalker(0);
        }
        Due.same("all left", automata.totalSteps(), 206);
        automata.addWalker(0);
        automata.step(0, 0);
        Due.same("another one came", automata.totalSteps(), 207);
        automata.setGate(0, false, false);
        Due.answer(() -> automata.step(0, 0));
        Due.same("a refused step", automata.totalSteps(), 207);
    }

    private static void totalStepsTakenBack() {
        Sentences.open(56, "undo takes steps back");
        StreetAutomata automata = Edges.walkers(1);
        automata.step(0, 0);
        Due.type(automata, "abcdef");
        automata.walkWord(0);
        automata.removeWalker(0);
        automata.undo();
        Due.same("a walker that is back", automata.totalSteps(), 7);
        automata.undo();
        Due.same("a word taken back", automata.totalSteps(), 1);
        automata.undo();
        Due.same("a step taken back", automata.totalSteps(), 0);
        Sentences.open(56, "restoreSnapshot() makes the number what it was when the snapshot was saved.");
        automata.step(0, 0);
        automata.step(0, 0);
        automata.saveSnapshot();
        automata.step(0, 0);
        automata.restoreSnapshot();
        Due.same("fewer", automata.totalSteps(), 2);
        automata.step(0, 0);
        automata.step(0, 0);
        automata.saveSnapshot();
        automata.undo();
        automata.undo();
        automata.restoreSnapshot();
        Due.same("more", automata.totalSteps(), 4);
    }

    private static void homeShare() {
        Sentences.open(57, "Returns the number of walkers that are home divided by the number of walkers, both converted to float");
        for (int count = 1; count <= 6; count++) {
            for (int home = 0; home <= count; home++) {
                StreetAutomata automata = Due.with("a", "");
                for (int walker = 0; walker < count; walker++) {
                    automata.addWalker(walker < home ? 1 : 0);
                }
                Due.same(home + " of " + count, Float.floatToIntBits(automata.homeShare()),
                        Float.floatToIntBits((float) home / (float) count));
            }
        }
        Sentences.open(57, "0.0f without walkers.");
        Due.same("a new object", Float.floatToIntBits(new StreetAutomata().homeShare()), 0);
        StreetAutomata left = Edges.walkers(1);
        left.removeWalker(0);
        Due.same("after all left", Float.floatToIntBits(left.homeShare()), 0);
    }

    private static void meanSetSize() {
        Sentences.open(58, "Returns the number of positions in the sets of all states of the deterministic automaton of a pattern");
        Edges.IndexCall call = (x, slot) -> Double.doubleToLongBits(x.meanSetSize(slot));
        Edges.inEachSlot("", call, Double.doubleToLongBits(0.0));
        Edges.inEachSlot("()|", call, Double.doubleToLongBits(0.0));
        Edges.inEachSlot("a", call, Double.doubleToLongBits(1.0 / 3.0));
        Edges.inEachSlot(".*", call, Double.doubleToLongBits(1.0 / 2.0));
        Edges.inEachSlot("a|".repeat(23) + "a", call, Double.doubleToLongBits(24.0 / 3.0));
        Edges.inEachSlot(CHAIN, call, Double.doubleToLongBits(24.0 / 26.0));
        Edges.inEachSlot(".*a....", call, Double.doubleToLongBits(112.0 / 33.0));
        Edges.inEachSlot("(" + "a?".repeat(24) + ")", call, Double.doubleToLongBits(300.0 / 26.0));
        Edges.slot(58, "slot", (x, slot) -> x.meanSetSize(slot));
    }
}
