/** Promises 46 to 58: asking for gates and walkers. */
public final class WalkTest {
    private static final int NONE = StreetAutomata.NONE;
    private static final Class<IndexOutOfBoundsException> NO_INDEX = IndexOutOfBoundsException.class;

    public static void main(String[] args) {
        isPassable();
        walkers();
        waysHome();
        waysHomeAndGates();
        walkersInState();
        meetingSteps();
        totalSteps();
        homeShare();
        meanSetSize();
        Due.end();
    }

    private static void isPassable() {
        StreetAutomata automata = new StreetAutomata();
        automata.setGate(0, false, false);
        automata.setGate(5, true, false);
        for (int street = 0; street < 6; street++) {
            Due.same("46: by day, " + street, automata.isPassable(street), street != 0);
        }
        Due.same("47: day", automata.isNight(), false);
        automata.setNight(true);
        for (int street = 0; street < 6; street++) {
            Due.same("46: by night, " + street, automata.isPassable(street), street != 5);
        }
        Due.same("47: night", automata.isNight(), true);
        for (int street : new int[] {-1, 6, 32, Integer.MIN_VALUE, Integer.MAX_VALUE}) {
            Due.refuses("46: street", NO_INDEX, () -> automata.isPassable(street));
        }
    }

    private static void walkers() {
        StreetAutomata automata = new StreetAutomata();
        Due.same("48: none", automata.walkerCount(), 0);
        automata.addWalker(1);
        automata.addWalker(0);
        automata.step(1, 0);
        automata.step(1, 2);
        automata.step(0, 3);
        Due.same("48: two", automata.walkerCount(), 2);
        Due.same("49: of 0", automata.walkerSlot(0), 1);
        Due.same("49: of 1", automata.walkerSlot(1), 0);
        Due.same("50: of 0", automata.walkerState(0), 3);
        Due.same("50: of 1", automata.walkerState(1), 4);
        Due.same("51: of 0", automata.walkerSteps(0), 1);
        Due.same("51: of 1", automata.walkerSteps(1), 2);
        automata.removeWalker(0);
        Due.same("48: one", automata.walkerCount(), 1);
        Due.same("49: moved up", automata.walkerSlot(0), 0);
        Due.same("50: moved up", automata.walkerState(0), 4);
        Due.same("51: moved up", automata.walkerSteps(0), 2);
        automata.restartWalker(0);
        Due.same("51: since it began", automata.walkerSteps(0), 0);
    }

    private static void home(StreetAutomata automata, int walker, int steps, int street) {
        Due.same("52: steps of " + walker, automata.stepsHome(walker), steps);
        Due.same("53: street of " + walker, automata.streetHome(walker), street);
    }

    private static void waysHome() {
        StreetAutomata automata = new StreetAutomata();
        automata.addWalker(0);
        automata.addWalker(1);
        home(automata, 0, 2, 0);
        home(automata, 1, 0, NONE);
        automata.step(0, 0);
        home(automata, 0, 1, 3);
        automata.step(1, 0);
        home(automata, 1, 1, 1);
        automata.step(0, 0);
        home(automata, 0, NONE, NONE);
        Due.compile(automata, 0, "(fa|ebc|cba|daa)");
        home(automata, 0, 2, 5);
        Due.compile(automata, 0, "(fa|eb|dc)");
        home(automata, 0, 2, 3);
        Due.compile(automata, 0, ".....");
        home(automata, 0, 5, 0);
        Due.compile(automata, 0, "a".repeat(24));
        home(automata, 0, 24, 0);
    }

    private static void waysHomeAndGates() {
        StreetAutomata automata = Due.with("(ab|bcd|c)", "a(b|c)*d");
        automata.addWalker(0);
        home(automata, 0, 1, 2);
        automata.setGate(2, false, false);
        home(automata, 0, 2, 0);
        automata.setGate(1, false, false);
        home(automata, 0, NONE, NONE);
        automata.setNight(true);
        home(automata, 0, 1, 2);
        automata.setGate(0, true, false);
        automata.setGate(2, true, false);
        home(automata, 0, NONE, NONE);
        automata.setGate(2, true, true);
        automata.step(0, 2);
        automata.setGate(2, true, false);
        home(automata, 0, 0, NONE);
    }

    private static void walkersInState() {
        StreetAutomata automata = new StreetAutomata();
        for (int walker = 0; walker < 6; walker++) {
            automata.addWalker(walker < 4 ? 0 : 1);
        }
        automata.step(0, 0);
        automata.step(3, 0);
        automata.step(5, 0);
        Due.same("54: slot 0, state 0", automata.walkersInState(0, 0), 2);
        Due.same("54: slot 0, state 1", automata.walkersInState(0, 1), 2);
        Due.same("54: slot 1, state 0", automata.walkersInState(1, 0), 1);
        Due.same("54: slot 1, state 1", automata.walkersInState(1, 1), 1);
        Due.same("54: none", automata.walkersInState(1, 5), 0);
        automata.removeWalker(5);
        Due.same("54: who left", automata.walkersInState(1, 1), 0);
    }

    private static void meetingSteps() {
        StreetAutomata automata = Due.with("(aa)+", "(aaa)+|b|e");
        automata.addWalker(0);
        automata.addWalker(1);
        automata.addWalker(0);
        Due.same("55: both ways", automata.meetingSteps(0, 1), 6);
        Due.same("55: turned", automata.meetingSteps(1, 0), 6);
        Due.same("55: itself", automata.meetingSteps(1, 1), 1);
        automata.step(0, 0);
        automata.step(0, 0);
        Due.same("55: itself, home", automata.meetingSteps(0, 0), 0);
        Due.same("55: one is home", automata.meetingSteps(0, 1), 6);
        automata.step(1, 0);
        automata.step(1, 0);
        automata.step(1, 0);
        Due.same("55: both are home", automata.meetingSteps(0, 1), 0);
        Due.same("55: same slot", automata.meetingSteps(0, 2), 2);
        automata.step(2, 0);
        Due.same("55: never together", automata.meetingSteps(0, 2), NONE);
        Due.same("55: of two slots", automata.meetingSteps(1, 2), 3);
        automata.setGate(0, false, false);
        Due.same("55: closed", automata.meetingSteps(1, 2), NONE);
        Due.same("55: closed, but home", automata.meetingSteps(1, 0), 0);
        automata.restartWalker(1);
        Due.same("55: closed, another street", automata.meetingSteps(1, 1), 1);
        automata.setNight(true);
        Due.same("55: open by night", automata.meetingSteps(0, 1), 6);
        Due.refuses("55: walker", NO_INDEX, () -> automata.meetingSteps(3, 0));
        Due.refuses("55: walker", NO_INDEX, () -> automata.meetingSteps(-1, 0));
        Due.refuses("55: other", NO_INDEX, () -> automata.meetingSteps(0, 3));
        Due.refuses("55: other", NO_INDEX, () -> automata.meetingSteps(0, -1));
        Due.refuses("55: both", NO_INDEX, () -> automata.meetingSteps(3, 3));
    }

    private static void totalSteps() {
        StreetAutomata automata = new StreetAutomata();
        automata.addWalker(0);
        automata.addWalker(1);
        automata.step(0, 0);
        automata.step(1, 0);
        Due.same("56: two walkers", automata.totalSteps(), 2);
        Due.type(automata, "abc.d");
        automata.walkWord(0);
        Due.same("56: walkWord", automata.totalSteps(), 5);
        automata.removeWalker(0);
        Due.same("56: one left", automata.totalSteps(), 5);
        automata.restartWalker(0);
        Due.same("56: one began anew", automata.totalSteps(), 5);
        automata.copyPattern(0);
        Due.compile(automata, 0, "a");
        Due.same("56: new patterns", automata.totalSteps(), 5);
        automata.saveSnapshot();
        automata.step(0, 0);
        automata.step(0, 0);
        Due.same("56: more", automata.totalSteps(), 7);
        automata.undo();
        Due.same("56: undo takes them back", automata.totalSteps(), 6);
        automata.restoreSnapshot();
        Due.same("56: restoreSnapshot", automata.totalSteps(), 5);
    }

    private static void homeShare() {
        StreetAutomata automata = new StreetAutomata();
        Due.same("57: without walkers", Float.floatToIntBits(automata.homeShare()), Float.floatToIntBits(0.0f));
        automata.addWalker(0);
        Due.text("57: none is home", "" + automata.homeShare(), "0.0");
        automata.addWalker(1);
        Due.text("57: one of two", "" + automata.homeShare(), "0.5");
        automata.addWalker(1);
        Due.text("57: two of three", "" + automata.homeShare(), "" + (2f / 3f));
        automata.step(0, 0);
        automata.step(0, 3);
        Due.text("57: all", "" + automata.homeShare(), "1.0");
        automata.addWalker(0);
        automata.addWalker(0);
        automata.addWalker(0);
        automata.step(0, 0);
        automata.step(1, 0);
        Due.text("57: one of six", "" + automata.homeShare(), "" + (1f / 6f));
    }

    private static void meanSetSize() {
        StreetAutomata automata = Due.with(".*a....", "a(b|c)*d");
        Due.text("58: .*a....", "" + automata.meanSetSize(0), "" + (112.0 / 33.0));
        Due.text("58: a(b|c)*d", "" + automata.meanSetSize(1), "" + (4.0 / 6.0));
        Due.compile(automata, 1, "");
        Due.text("58: no positions", "" + automata.meanSetSize(1), "0.0");
        Due.compile(automata, 1, "a");
        Due.text("58: a", "" + automata.meanSetSize(1), "" + (1.0 / 3.0));
    }
}
