/** Promises 28 to 35: the deterministic automaton. */
public final class StateTest {
    private static final int NONE = StreetAutomata.NONE;

    public static void main(String[] args) {
        firstDefaultPattern();
        secondDefaultPattern();
        smallPatterns();
        numbersGoByStreetsNotByText();
        equivalence();
        largest();
        gatesDoNotMatter();
        Due.end();
    }

    private static String table(StreetAutomata automata, int slot) {
        StringBuilder text = new StringBuilder();
        for (int state = 0; state < automata.stateCount(slot); state++) {
            text.append(state == 0 ? "" : " ");
            for (int street = 0; street < 6; street++) {
                text.append(automata.transition(slot, state, street));
            }
            text.append(automata.isAccepting(slot, state) ? "!" : "").append(':');
            text.append(automata.statePositions(slot, state)).append('/');
            text.append(automata.distanceToAccepting(slot, state));
        }
        return text.toString();
    }

    private static void firstDefaultPattern() {
        StreetAutomata automata = new StreetAutomata();
        Due.text("29 to 33: a(b|c)*d", table(automata, 0),
                "122222:0/2 234522:2/1 222222:0/-1 234522:4/1 234522:8/1 222222!:16/0");
        Due.same("28: a(b|c)*d", automata.stateCount(0), 6);
        Due.same("32: a(b|c)*d", automata.deadState(0), 2);
        Due.same("35: a(b|c)*d", automata.minimalStateCount(0), 4);
    }

    private static void secondDefaultPattern() {
        StreetAutomata automata = new StreetAutomata();
        Due.text("29 to 33: (ab|ac)*d?", table(automata, 1),
                "122322!:0/0 245222:10/1 222222:0/-1 222222!:32/0 122322!:4/0 122322!:16/0");
        Due.same("32: (ab|ac)*d?", automata.deadState(1), 2);
        Due.same("35: (ab|ac)*d?", automata.minimalStateCount(1), 4);
    }

    private static void smallPatterns() {
        StreetAutomata empty = Due.with("", ".*");
        Due.text("the empty text", table(empty, 0), "111111!:0/0 111111:0/-1");
        Due.same("32: the empty text", empty.deadState(0), 1);
        Due.same("35: the empty text", empty.minimalStateCount(0), 2);
        Due.text("every word", table(empty, 1), "111111!:0/0 111111!:2/0");
        Due.same("32: every word", empty.deadState(1), NONE);
        Due.same("35: every word", empty.minimalStateCount(1), 1);
        Due.same("34: every word", empty.areEquivalentStates(1, 0, 1), true);
        StreetAutomata one = Due.with(".+", "f");
        Due.text("every word but the empty one", table(one, 0), "111111:0/1 111111!:2/0");
        Due.same("35: every word but the empty one", one.minimalStateCount(0), 2);
        Due.text("f", table(one, 1), "111112:0/1 111111:0/-1 111111!:2/0");
        Due.same("32: f", one.deadState(1), 1);
        Due.same("28: f", one.stateCount(1), 3);
    }

    private static void numbersGoByStreetsNotByText() {
        StreetAutomata automata = Due.with("f|e|d|c|b|a", "(fa|bc)*");
        for (int street = 0; street < 6; street++) {
            Due.same("29: street " + street, automata.transition(0, 0, street), street + 1);
            Due.same("31: street " + street, automata.statePositions(0, street + 1), 1 << (6 - street));
        }
        Due.same("32: found from state 1", automata.deadState(0), 7);
        Due.text("29: order of finding", table(automata, 1),
                "121113!:0/0 111111:0/-1 114111:8/1 511111:2/1 121113!:16/0 121113!:4/0");
    }

    private static void equivalence() {
        StreetAutomata automata = Due.with("a(b|c)*d", "aaa|ba|caa");
        boolean[][] due = new boolean[6][6];
        for (int state = 0; state < 6; state++) {
            due[state][state] = true;
        }
        for (int[] pair : new int[][] {{1, 3}, {1, 4}, {3, 4}}) {
            due[pair[0]][pair[1]] = true;
            due[pair[1]][pair[0]] = true;
        }
        for (int state = 0; state < 6; state++) {
            for (int other = 0; other < 6; other++) {
                Due.same("34: " + state + " and " + other,
                        automata.areEquivalentStates(0, state, other), due[state][other]);
            }
        }
        int afterA = automata.transition(1, 0, 0);
        int afterB = automata.transition(1, 0, 1);
        int afterC = automata.transition(1, 0, 2);
        int afterAA = automata.transition(1, afterA, 0);
        Due.same("34: aa and a differ", automata.areEquivalentStates(1, afterAA, afterA), false);
        Due.same("34: aa and b", automata.areEquivalentStates(1, afterAA, afterB), true);
        Due.same("34: a and c", automata.areEquivalentStates(1, afterA, afterC), true);
        Due.same("35: aaa|ba|caa", automata.minimalStateCount(1), 5);
        StreetAutomata chain = Due.with("a".repeat(24), "(a|b)(a|b)(a|b)");
        Due.same("35: a chain has no equivalent states", chain.minimalStateCount(0), 26);
        Due.same("33: far", chain.distanceToAccepting(0, 0), 24);
        Due.same("28: pairs", chain.stateCount(1), 8);
        Due.same("35: pairs", chain.minimalStateCount(1), 5);
    }

    private static void largest() {
        StreetAutomata automata = Due.with("d.*a....|c.*a...|eeeeeeee", ".*a....");
        Due.same("28: 60", automata.stateCount(0), 60);
        Due.same("28: 33", automata.stateCount(1), 33);
        Due.same("32: none", automata.deadState(1), NONE);
        Due.same("35: 32", automata.minimalStateCount(1), 32);
        Due.same("33: 5", automata.distanceToAccepting(1, 0), 5);
        Due.same("29: state 59 stays in the automaton", automata.transition(0, 59, 5) < 60, true);
        Due.same("30: accepting", automata.isAccepting(0, 59), true);
    }

    private static void gatesDoNotMatter() {
        StreetAutomata automata = new StreetAutomata();
        String before = table(automata, 0);
        for (int street = 0; street < 6; street++) {
            automata.setGate(street, false, false);
        }
        Due.text("29 to 33: all gates closed", table(automata, 0), before);
        Due.same("34: all gates closed", automata.areEquivalentStates(0, 0, 1), false);
        Due.same("35: all gates closed", automata.minimalStateCount(0), 4);
    }
}
