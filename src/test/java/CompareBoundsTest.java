/** Promises 42 to 45, sentence by sentence at their edges: comparison of the two patterns. */
public final class CompareBoundsTest {
    private static final int NONE = StreetAutomata.NONE;
    private static final String CHAIN = "a".repeat(24);

    public static void main(String[] args) {
        isSubset();
        differenceLength();
        sharedLength();
        reachablePairs();
        gatesDoNotMatter();
        Sentences.allOpened(42, 45);
        Due.end();
    }

    private static void subset(String zero, String one, boolean zeroInOne, boolean oneInZero) {
        StreetAutomata automata = Due.with(zero, one);
        Due.same(zero + " in " + one, automata.isSubset(0), zeroInOne);
        Due.same(one + " in " + zero, automata.isSubset(1), oneInZero);
        Due.same("is no change", automata.undoCount(), 2);
    }

    private static void isSubset() {
        Sentences.open(42, "Returns whether every word that the pattern of slot `inner` accepts is accepted by the pattern of the other slot.");
        subset("", "", true, true);
        subset("", "a", false, false);
        subset("", "a?", true, false);
        subset("a", "a?", true, false);
        subset("a+", "a*", true, false);
        subset("a*", ".*", true, false);
        subset("a", "b", false, false);
        subset("ab|ac", "a(b|c)", true, true);
        subset("a".repeat(23), "a".repeat(23) + "b?", true, false);
        subset(CHAIN, "a".repeat(23) + "b", false, false);
        subset(CHAIN, "a*", true, false);
        subset(CHAIN + "*", CHAIN, false, true);
        subset("(" + CHAIN + ")*", "(" + "a".repeat(12) + ")*", true, false);
        subset(Edges.SIXTY_STATES, ".*", true, false);
        subset(Edges.SIXTY_STATES, Edges.SIXTY_STATES, true, true);
        StreetAutomata copied = new StreetAutomata();
        copied.copyPattern(1);
        Due.same("a copy", copied.isSubset(0) && copied.isSubset(1), true);
        Edges.slot(42, "inner", (x, inner) -> x.isSubset(inner));
    }

    private static void length(String what, String zero, String one, Edges.Call call, int due) {
        StreetAutomata automata = Due.with(zero, one);
        Due.text(what + zero + " and " + one, "" + call.on(automata), "" + due);
        Due.text(what + one + " and " + zero, "" + call.on(Due.with(one, zero)), "" + due);
        Due.same("is no change", automata.undoCount(), 2);
    }

    private static void differenceLength() {
        Sentences.open(43, "Returns the length of the shortest words that exactly one of the two patterns accepts, or NONE");
        Edges.Call call = x -> x.differenceLength();
        length("both the same: ", "", "", call, NONE);
        length("both the same: ", "a", "a|a", call, NONE);
        length("both the same: ", "(a|b)*", "(a*b*)*", call, NONE);
        length("both the same: ", ".*", "(|.)+", call, NONE);
        length("both the same: ", Edges.SIXTY_STATES, Edges.SIXTY_STATES, call, NONE);
        length("the empty word: ", "", "a", call, 0);
        length("the empty word: ", "a*", "a+", call, 0);
        length("one letter: ", "", ".*", call, 1);
        length("one letter: ", "a", "f", call, 1);
        length("the longest chain: ", CHAIN, "a".repeat(23) + "b", call, 24);
        length("behind it: ", CHAIN, "a".repeat(23) + "a+", call, 25);
        length("far behind: ", "(" + "a".repeat(23) + ")*", "(" + CHAIN + ")*", call, 23);
        length("far behind: ", "(" + "a".repeat(12) + ")*", "(" + CHAIN + ")*", call, 12);
    }

    private static void sharedLength() {
        Sentences.open(44, "Returns the length of the shortest words that both patterns accept, or NONE if there is no such word.");
        Edges.Call call = x -> x.sharedLength();
        length("none: ", "", "a", call, NONE);
        length("none: ", "a", "b", call, NONE);
        length("none: ", "a+", "b+", call, NONE);
        length("none: ", "(aa)*", "a(aa)*", call, NONE);
        length("none: ", CHAIN, "a".repeat(23), call, NONE);
        length("the empty word: ", "", "", call, 0);
        length("the empty word: ", "a*", "b*", call, 0);
        length("one letter: ", "a", ".", call, 1);
        length("the longest chain: ", CHAIN, ".*", call, 24);
        length("the first one that both have: ", "(" + "a".repeat(23) + ")+", "(" + CHAIN + ")+", call, 552);
        length("the same one: ", Edges.SIXTY_STATES, Edges.SIXTY_STATES, call, 5);
    }

    private static void reachablePairs() {
        Sentences.open(45, "Returns the number of pairs of states, one of each deterministic automaton, that are reached by the same word");
        Edges.Call call = x -> x.reachablePairs();
        length("the fewest: ", "", "", call, 2);
        length("the fewest: ", ".*", ".*", call, 2);
        length("the pair of both states 0 counts once: ", "", ".*", call, 2);
        length("each with itself: ", CHAIN, CHAIN, call, 26);
        length("each with itself: ", Edges.SIXTY_STATES, Edges.SIXTY_STATES, call, 60);
        length("one state for many: ", Edges.SIXTY_STATES, ".*", call, 60);
        length("pairs of states 1 to 32 and the first: ", ".*(a|b)....", ".*(a|c)....", call, 1025);
        length("all pairs but those with a state 0: ", "(" + "a".repeat(22) + ")*", "(" + "a".repeat(23) + ")*", call, 508);
    }

    private static void gatesDoNotMatter() {
        StreetAutomata automata = Due.with("ab|c", "ab|d");
        String open = comparisons(automata);
        for (int street = 0; street < 6; street++) {
            automata.setGate(street, false, false);
        }
        Due.about("comparison of the two patterns");
        Due.text("with all gates closed", comparisons(automata), open);
    }

    private static String comparisons(StreetAutomata automata) {
        return automata.isSubset(0) + " " + automata.isSubset(1) + " " + automata.differenceLength() + " "
                + automata.sharedLength() + " " + automata.reachablePairs();
    }
}
