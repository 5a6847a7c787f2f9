/** Promises 7 to 13: the changes of walkers and gates. */
public final class WalkerChangeTest {
    private static final Class<IndexOutOfBoundsException> NO_INDEX = IndexOutOfBoundsException.class;

    public static void main(String[] args) {
        addWalker();
        removeWalker();
        step();
        walkWord();
        restartWalker();
        setGate();
        setNight();
        Due.end();
    }

    private static StreetAutomata threeWalkers() {
        StreetAutomata automata = new StreetAutomata();
        automata.addWalker(0);
        automata.addWalker(1);
        automata.addWalker(0);
        automata.step(0, 0);
        automata.step(1, 3);
        automata.step(2, 0);
        automata.step(2, 1);
        return automata;
    }

    private static void addWalker() {
        StreetAutomata automata = new StreetAutomata();
        for (int walker = 0; walker < 6; walker++) {
            Due.same("7: number", automata.addWalker(walker % 2), walker);
            Due.same("7: count", automata.walkerCount(), walker + 1);
            Due.same("7: slot", automata.walkerSlot(walker), walker % 2);
            Due.same("7: state", automata.walkerState(walker), 0);
            Due.same("7: steps", automata.walkerSteps(walker), 0);
        }
        Due.refuses("7: a 7th", IllegalStateException.class, () -> automata.addWalker(0));
        Due.refuses("7: a 7th in no slot", NO_INDEX, () -> automata.addWalker(2));
        Due.refuses("7: slot -1", NO_INDEX, () -> automata.addWalker(-1));
        Due.same("7: still 6", automata.walkerCount(), 6);
        automata.removeWalker(5);
        Due.same("7: there is room again", automata.addWalker(1), 5);
        StreetAutomata other = threeWalkers();
        other.removeWalker(2);
        other.addWalker(1);
        Due.text("7: a new one begins at 0", Due.gatesAndWalkers(other), "false4 oooooo 0/1/1 1/3/1 1/0/0");
    }

    private static void removeWalker() {
        StreetAutomata automata = threeWalkers();
        Due.refuses("8: walker 3", NO_INDEX, () -> automata.removeWalker(3));
        Due.refuses("8: walker -1", NO_INDEX, () -> automata.removeWalker(-1));
        Due.same("8: steps", automata.removeWalker(2), 2);
        Due.same("8: steps", automata.removeWalker(0), 1);
        Due.text("8: greater numbers get 1 less", Due.gatesAndWalkers(automata), "false4 oooooo 1/3/1");
        Due.same("8: the last one", automata.removeWalker(0), 1);
        Due.same("8: none is left", automata.walkerCount(), 0);
        Due.refuses("8: no walker", NO_INDEX, () -> automata.removeWalker(0));
        StreetAutomata middle = threeWalkers();
        Due.same("8: from the middle", middle.removeWalker(1), 1);
        Due.text("8: from the middle", Due.gatesAndWalkers(middle), "false4 oooooo 0/1/1 0/3/2");
        StreetAutomata full = new StreetAutomata();
        for (int walker = 0; walker < 6; walker++) {
            full.addWalker(walker % 2);
        }
        full.step(5, 0);
        Due.same("8: of six", full.removeWalker(0), 0);
        Due.text("8: of six", Due.gatesAndWalkers(full), "false1 oooooo 1/0/0 0/0/0 1/0/0 0/0/0 1/1/1");
    }

    private static void step() {
        StreetAutomata automata = new StreetAutomata();
        automata.addWalker(0);
        automata.addWalker(1);
        Due.same("9: along a", automata.step(0, 0), automata.transition(0, 0, 0));
        Due.same("9: along b", automata.step(0, 1), 3);
        Due.same("9: in the other slot", automata.step(1, 3), 3);
        Due.same("9: into the dead state", automata.step(1, 5), 2);
        Due.same("9: in the dead state", automata.step(1, 0), 2);
        Due.same("9: steps of 0", automata.walkerSteps(0), 2);
        Due.same("9: steps of 1", automata.walkerSteps(1), 3);
        Due.same("9: state of 0", automata.walkerState(0), 3);
        automata.setGate(3, false, false);
        String before = Due.world(automata);
        Due.refuses("9: closed", IllegalStateException.class, () -> automata.step(0, 3));
        Due.refuses("9: no walker", NO_INDEX, () -> automata.step(2, 3));
        Due.refuses("9: walker -1", NO_INDEX, () -> automata.step(-1, 0));
        Due.refuses("9: no street", NO_INDEX, () -> automata.step(0, 6));
        Due.refuses("9: street -1", NO_INDEX, () -> automata.step(0, -1));
        Due.text("9: refused", Due.world(automata), before);
        Due.same("9: refused, undo", automata.undoCount(), 8);
        automata.setNight(true);
        Due.same("9: open by night", automata.step(0, 3), 5);
        automata.setGate(3, true, false);
        Due.refuses("9: closed by night", IllegalStateException.class, () -> automata.step(0, 3));
    }

    private static void walkWord() {
        StreetAutomata automata = new StreetAutomata();
        automata.addWalker(0);
        automata.addWalker(1);
        Due.type(automata, "abcd");
        Due.same("10: the whole word", automata.walkWord(0), 4);
        Due.text("10: the whole word", Due.gatesAndWalkers(automata), "false4 oooooo 0/5/4 1/0/0");
        Due.same("10: input is empty", automata.inputLength(), 0);
        Due.same("10: the empty word", automata.walkWord(1), 0);
        Due.same("10: the empty word is a change", automata.undoCount(), 4);
        String[] ends = {"abga", "ab.a", "ab\0a", "ab`a", "ab\u00e1a", "abAa"};
        for (String text : ends) {
            Due.type(automata, text);
            Due.same("10: stops before what is no letter", automata.walkWord(1), 2);
            Due.same("10: the rest is lost too", automata.inputLength(), 0);
        }
        automata.setGate(2, false, false);
        automata.restartWalker(1);
        Due.type(automata, "abacab");
        Due.same("10: stops before a closed street", automata.walkWord(1), 3);
        Due.text("10: stopped", Due.gatesAndWalkers(automata), "false19 oocooo 0/5/4 1/1/3");
        automata.setNight(true);
        Due.type(automata, "c");
        Due.same("10: open by night", automata.walkWord(1), 1);
        automata.undo();
        Due.same("10: one undo takes all its steps", automata.walkerSteps(1), 3);
        Due.same("10: the input does not come back", automata.inputLength(), 0);
        Due.type(automata, "ab");
        Due.refuses("10: walker 2", NO_INDEX, () -> automata.walkWord(2));
        Due.refuses("10: walker -1", NO_INDEX, () -> automata.walkWord(-1));
        Due.same("10: refused, the input stays", automata.inputLength(), 2);
        automata.truncateInput(0);
        Due.type(automata, "abcdef".repeat(33) + "ab");
        Due.same("10: 200 steps", automata.walkWord(0), 200);
        Due.same("10: 200 steps", automata.walkerSteps(0), 204);
    }

    private static void restartWalker() {
        StreetAutomata automata = threeWalkers();
        Due.same("11: state before", automata.restartWalker(2), 3);
        Due.same("11: state before", automata.restartWalker(0), 1);
        Due.same("11: again", automata.restartWalker(0), 0);
        Due.text("11: begins anew, the total stays", Due.gatesAndWalkers(automata), "false4 oooooo 0/0/0 1/3/1 0/0/0");
        Due.refuses("11: walker 3", NO_INDEX, () -> automata.restartWalker(3));
        Due.refuses("11: walker -1", NO_INDEX, () -> automata.restartWalker(-1));
        automata.undo();
        automata.undo();
        Due.same("11: undone", automata.walkerState(0) * 10 + automata.walkerSteps(0), 11);
    }

    private static void setGate() {
        StreetAutomata automata = new StreetAutomata();
        for (int street = 0; street < 6; street++) {
            Due.same("12: was open", automata.setGate(street, false, false), true);
            Due.same("12: is closed", automata.setGate(street, false, false), false);
            Due.same("12: was closed", automata.setGate(street, false, true), false);
            Due.same("12: is open", automata.setGate(street, false, true), true);
            Due.same("12: the night's was open", automata.setGate(street, true, false), true);
            Due.same("12: the night's is closed", automata.setGate(street, true, false), false);
            Due.same("12: the day's stays", automata.isPassable(street), true);
            Due.same("12: the others stay", automata.setNight(true), 5 - street);
            automata.setNight(false);
        }
        Due.same("12: a gate that stays as it is is a change too", automata.undoCount(), 8);
        Due.refuses("12: street 6", NO_INDEX, () -> automata.setGate(6, true, false));
        Due.refuses("12: street -1", NO_INDEX, () -> automata.setGate(-1, false, false));
        Due.refuses("12: street 32", NO_INDEX, () -> automata.setGate(32, false, false));
        Due.same("12: refused", automata.setNight(false), 6);
    }

    private static void setNight() {
        StreetAutomata automata = new StreetAutomata();
        automata.setGate(0, false, false);
        automata.setGate(1, false, false);
        automata.setGate(5, true, false);
        Due.same("13: by day", automata.setNight(false), 4);
        Due.same("13: by night", automata.setNight(true), 5);
        Due.same("13: is night", automata.isNight(), true);
        Due.same("13: again", automata.setNight(true), 5);
        Due.same("13: by day", automata.setNight(false), 4);
        Due.same("13: is day", automata.isNight(), false);
        Due.same("13: each is a change", automata.undoCount(), 7);
        automata.undo();
        Due.same("13: undone", automata.isNight(), true);
    }
}
