/** Promises 28 to 35, sentence by sentence at their edges: the deterministic automaton. */
public final class StateBoundsTest {
    private static final int NONE = StreetAutomata.NONE;
    private static final String CHAIN = "a".repeat(24);

    public static void main(String[] args) {
        stateCount();
        transition();
        isAccepting();
        statePositions();
        deadState();
        distanceToAccepting();
        areEquivalentStates();
        minimalStateCount();
        Sentences.allOpened(28, 35);
        Due.end();
    }

    private static void stateCount() {
        Sentences.open(28, "Returns the number of states of the deterministic automaton of a pattern.");
        Edges.IndexCall call = (x, slot) -> x.stateCount(slot);
        Edges.inEachSlot("", call, 2);
        Edges.inEachSlot(".*", call, 2);
        Edges.inEachSlot(".+", call, 2);
        Edges.inEachSlot("a", call, 3);
        Edges.inEachSlot("(.|a)*", call, 3);
        Edges.inEachSlot(CHAIN, call, 26);
        Edges.inEachSlot(".".repeat(24), call, 26);
        Edges.inEachSlot(".*a....", call, 33);
        Edges.inEachSlot(Edges.SIXTY_STATES, call, 60);
        Edges.slot(28, "slot", call);
    }

    private static void transition() {
        Sentences.open(29, "Returns the state that is reached from a state along a street.");
        for (int slot = 0; slot < 2; slot++) {
            StreetAutomata automata = Due.with(Edges.SIXTY_STATES, Edges.SIXTY_STATES);
            int dead = automata.deadState(slot);
            for (int street = 0; street < 6; street++) {
                Due.same("from the dead state", automata.transition(slot, dead, street), dead);
            }
            Due.same("from state 0 along a", automata.transition(slot, 0, 0), 1);
            Due.same("from state 0 along f", automata.transition(slot, 0, 5), 1);
            Due.same("from state 0 along d", automata.transition(slot, 0, 3), 3);
            int last = automata.transition(slot, 59, 0);
            Due.same("positions behind state 59", automata.statePositions(slot, last),
                    positionsAfter(automata, slot, automata.statePositions(slot, 59), 0));
        }
        Edges.slot(29, "slot", (x, slot) -> x.transition(slot, 0, 0));
        Edges.state(29, "state", (x, slot, state) -> x.transition(slot, state, 0));
        Edges.state(29, "state", (x, slot, state) -> x.transition(slot, state, 5));
        Edges.street(29, (x, street) -> x.transition(0, 0, street));
        Edges.street(29, (x, street) -> x.transition(1, 5, street));
    }

    private static int positionsAfter(StreetAutomata automata, int slot, int set, int street) {
        int next = 0;
        for (int position = 1; position <= automata.positionCount(slot); position++) {
            if ((set >> position & 1) != 0) {
                next |= automata.followPositions(slot, position);
            }
        }
        for (int position = 1; position <= automata.positionCount(slot); position++) {
            int stands = automata.streetAt(slot, position);
            if (stands != street && stands != NONE) {
                next &= ~(1 << position);
            }
        }
        return next;
    }

    private static void isAccepting() {
        Sentences.open(30, "Returns whether a state is accepting.");
        Edges.IndexCall first = (x, slot) -> x.isAccepting(slot, 0);
        Edges.IndexCall last = (x, slot) -> x.isAccepting(slot, x.stateCount(slot) - 1);
        Edges.IndexCall dead = (x, slot) -> x.isAccepting(slot, x.deadState(slot));
        Edges.inEachSlot("", first, true);
        Edges.inEachSlot("", dead, false);
        Edges.inEachSlot("a*", first, true);
        Edges.inEachSlot("a*", dead, false);
        Edges.inEachSlot("a+", first, false);
        Edges.inEachSlot("a+", dead, false);
        Edges.inEachSlot("a", last, false);
        Edges.inEachSlot("f", last, true);
        Edges.inEachSlot("(a|)+", first, true);
        Edges.inEachSlot(CHAIN, first, false);
        Edges.inEachSlot(CHAIN, last, true);
        Edges.inEachSlot(Edges.SIXTY_STATES, last, true);
        Edges.slot(30, "slot", first);
        Edges.state(30, "state", (x, slot, state) -> x.isAccepting(slot, state));
    }

    private static void statePositions() {
        Sentences.open(31, "Returns the positions in the set of a state (the start state is left out).");
        Edges.IndexCall first = (x, slot) -> x.statePositions(slot, 0);
        Edges.IndexCall second = (x, slot) -> x.statePositions(slot, 1);
        Edges.IndexCall last = (x, slot) -> x.statePositions(slot, x.stateCount(slot) - 1);
        for (String text : new String[] {"", "a", "a*", ".*", CHAIN, Edges.SIXTY_STATES}) {
            Edges.inEachSlot(text, first, 0);
        }
        Edges.inEachSlot("", second, 0);
        Edges.inEachSlot("f", second, 0);
        Edges.inEachSlot("a", second, 2);
        Edges.inEachSlot(".*", second, 2);
        Edges.inEachSlot("a|".repeat(24), second, (1 << 25) - 2);
        Edges.inEachSlot("a|".repeat(23) + "b", second, (1 << 24) - 2);
        Edges.inEachSlot(CHAIN, last, 1 << 24);
        Edges.slot(31, "slot", second);
        Edges.state(31, "state", (x, slot, state) -> x.statePositions(slot, state));
    }

    private static void deadState() {
        Sentences.open(32, "Returns the number of the dead state, or NONE if the automaton has none.");
        Edges.IndexCall call = (x, slot) -> x.deadState(slot);
        Edges.inEachSlot("", call, 1);
        Edges.inEachSlot("f", call, 1);
        Edges.inEachSlot("a", call, 2);
        Edges.inEachSlot("a|b|c|d|e|f", call, 7);
        Edges.inEachSlot(".".repeat(24), call, 25);
        Edges.inEachSlot(".*", call, NONE);
        Edges.inEachSlot(".+", call, NONE);
        Edges.inEachSlot("(.|..)+", call, NONE);
        Edges.inEachSlot(".*a....", call, NONE);
        Edges.slot(32, "slot", call);
    }

    private static void distanceToAccepting() {
        Sentences.open(33, "Returns the number of steps from a state to the nearest accepting state (0 if it is accepting)");
        Edges.IndexCall first = (x, slot) -> x.distanceToAccepting(slot, 0);
        Edges.IndexCall last = (x, slot) -> x.distanceToAccepting(slot, x.stateCount(slot) - 1);
        Edges.IndexCall dead = (x, slot) -> x.distanceToAccepting(slot, x.deadState(slot));
        Edges.inEachSlot("", first, 0);
        Edges.inEachSlot("a*", first, 0);
        Edges.inEachSlot("a+", first, 1);
        Edges.inEachSlot("f", first, 1);
        Edges.inEachSlot("f", last, 0);
        Edges.inEachSlot("aaa|bb", first, 2);
        Edges.inEachSlot(CHAIN, first, 24);
        Edges.inEachSlot(CHAIN, last, 0);
        Sentences.open(33, "NONE if no accepting state can be reached.");
        for (String text : new String[] {"", "a", "a*", CHAIN, Edges.SIXTY_STATES}) {
            Edges.inEachSlot(text, dead, NONE);
        }
        Sentences.open(33, "whatever the gates are");
        StreetAutomata automata = Due.with("abc", "abc");
        for (int street = 0; street < 6; street++) {
            automata.setGate(street, street % 2 == 0, false);
        }
        Due.same("by day", automata.distanceToAccepting(0, 0), 3);
        automata.setNight(true);
        Due.same("by night", automata.distanceToAccepting(1, 0), 3);
        Edges.slot(33, "slot", first);
        Edges.state(33, "state", (x, slot, state) -> x.distanceToAccepting(slot, state));
    }

    private static void areEquivalentStates() {
        Sentences.open(34, "Returns whether two states accept the same words.");
        for (int slot = 0; slot < 2; slot++) {
            StreetAutomata automata = Due.with("(a|b)c", "(a|b)c");
            StringBuilder got = new StringBuilder();
            for (int state = 0; state < automata.stateCount(slot); state++) {
                got.append(state == 0 ? "" : " ");
                for (int other = 0; other < automata.stateCount(slot); other++) {
                    got.append(automata.areEquivalentStates(slot, state, other) ? 1 : 0);
                }
            }
            Due.text("each with each", got.toString(), "10000 01100 01100 00010 00001");
        }
        Due.same("two states, both accept all", Due.with(".*", "").areEquivalentStates(0, 0, 1), true);
        Due.same("two states, by the empty word alone", Due.with(".+", "").areEquivalentStates(0, 0, 1), false);
        Due.same("the dead one", Due.with("", "").areEquivalentStates(0, 0, 1), false);
        StreetAutomata chain = Due.with("", CHAIN);
        Due.same("by a word of 24 alone", chain.areEquivalentStates(1, 0, chain.deadState(1)), false);
        StreetAutomata sixty = Due.with("", Edges.SIXTY_STATES);
        Due.same("the first and the last of 60", sixty.areEquivalentStates(1, 0, 59), false);
        Due.same("the last of 60 and itself", sixty.areEquivalentStates(1, 59, 59), true);
        eachPairOfStates("a(b|c)*d", "(ab|ac)*d?");
        eachPairOfStates("aaa|ba|caa", "(a|b)(a|b)(a|b)c|dac");
        eachPairOfStates("(a|b)*a(a|b)", "((a|b)(a|b)(a|b))*a?");
        eachPairOfStates("", "(.|a)*b?");
        Edges.slot(34, "slot", (x, slot) -> x.areEquivalentStates(slot, 0, 1));
        Edges.state(34, "state", (x, slot, state) -> x.areEquivalentStates(slot, state, 0));
        Edges.state(34, "other", (x, slot, state) -> x.areEquivalentStates(slot, 1, state));
    }

    /** Asked of both slots by turns, so that no answer can rest upon the question before. */
    private static void eachPairOfStates(String zero, String one) {
        StreetAutomata automata = Due.with(zero, one);
        PlainPattern[] plain = {new PlainPattern(zero), new PlainPattern(one)};
        for (int state = 0; state < 10; state++) {
            for (int other = 0; other < 10; other++) {
                for (int slot = 0; slot < 2; slot++) {
                    if (Math.max(state, other) < plain[slot].states.size()) {
                        Due.same(state + " and " + other + " in slot " + slot + " of " + zero + " and " + one,
                                automata.areEquivalentStates(slot, state, other), !plain[slot].differing()[state][other]);
                    }
                }
            }
        }
        for (int slot = 0; slot < 4; slot++) {
            Due.same("classes", automata.minimalStateCount(slot % 2), plain[slot % 2].classCount());
        }
    }

    private static void minimalStateCount() {
        Sentences.open(35, "Returns the number of states of the minimal deterministic automaton");
        Edges.IndexCall call = (x, slot) -> x.minimalStateCount(slot);
        Edges.inEachSlot(".*", call, 1);
        Edges.inEachSlot("(.|a)*", call, 1);
        Edges.inEachSlot("", call, 2);
        Edges.inEachSlot(".+", call, 2);
        Edges.inEachSlot("a*", call, 2);
        Edges.inEachSlot("a", call, 3);
        Edges.inEachSlot("a|b|c|d|e|f", call, 3);
        Edges.inEachSlot("a|".repeat(23) + "a", call, 3);
        Edges.inEachSlot(CHAIN, call, 26);
        Edges.inEachSlot(".".repeat(24), call, 26);
        Edges.inEachSlot(".*a....", call, 32);
        Edges.inEachSlot(Edges.SIXTY_STATES, call, new PlainPattern(Edges.SIXTY_STATES).classCount());
        Edges.slot(35, "slot", call);
    }
}
