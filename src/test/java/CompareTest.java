/** Promises 42 to 45, and the words of 60 and 61: comparison of the two patterns. */
public final class CompareTest {
    private static final int NONE = StreetAutomata.NONE;

    public static void main(String[] args) {
        // zero, one, zero within one, one within zero, difference, shared word (null for none)
        check("a(b|c)*d", "(ab|ac)*d?", false, false, "", "abd");
        check("a", "a", true, true, null, "a");
        check("(a|b)*", "(b*a*)*", true, true, null, "");
        check("a*", "a+", false, true, "", "a");
        check("ab", "a.", true, false, "aa", "ab");
        check("a|b", "c|d", false, false, "a", null);
        check("", "a", false, false, "", null);
        check("", "()", true, true, null, "");
        check(".*", "", false, true, "a", "");
        check("(f|ea)", "(f|eb)", false, false, "ea", "f");
        check("ba|cd", "ba|ef", false, false, "cd", "ba");
        check("(aa)+", "(aaa)+", false, false, "aa", "aaaaaa");
        check(".*a....", "(.*a....)+", true, true, null, "aaaaa");
        check("c?ba", "c?b+a", true, false, "bba", "ba");
        longSharedWord();
        longDifference();
        pairs();
        gatesDoNotMatter();
        Due.end();
    }

    private static void check(String zero, String one, boolean zeroInOne, boolean oneInZero, String difference,
            String shared) {
        StreetAutomata automata = Due.with(zero, one);
        StreetAutomata turned = Due.with(one, zero);
        String what = zero + " and " + one;
        Due.same("42: " + what, automata.isSubset(0), zeroInOne);
        Due.same("42: " + what, automata.isSubset(1), oneInZero);
        Due.same("42: turned, " + what, turned.isSubset(0), oneInZero);
        Due.same("43: " + what, automata.differenceLength(), difference == null ? NONE : difference.length());
        Due.same("43: turned, " + what, turned.differenceLength(), difference == null ? NONE : difference.length());
        Due.same("44: " + what, automata.sharedLength(), shared == null ? NONE : shared.length());
        Due.same("44: turned, " + what, turned.sharedLength(), shared == null ? NONE : shared.length());
        automata.writeWord(1, automata.shortestLength(1), 0);
        String before = Due.report(automata);
        Due.same("60: " + what, automata.writeDifference(), difference == null ? NONE : difference.length());
        Due.text("60: " + what, Due.report(automata), difference == null ? before : difference);
        before = Due.report(automata);
        Due.same("61: " + what, automata.writeSharedWord(), shared == null ? NONE : shared.length());
        Due.text("61: " + what, Due.report(automata), shared == null ? before : shared);
        Due.same("42 to 45: no change", automata.undoCount(), 2);
    }

    private static void longSharedWord() {
        StreetAutomata automata = Due.with("(" + "a".repeat(23) + ")+", "(" + "a".repeat(24) + ")+");
        Due.same("44: 23 times 24", automata.sharedLength(), 552);
        Due.same("61: 23 times 24", automata.writeSharedWord(), 552);
        Due.text("61: 23 times 24, first", automata.reportByte(0) + " " + automata.reportByte(551), "97 97");
        Due.same("61: 23 times 24, end", automata.reportByte(552), NONE);
    }

    private static void longDifference() {
        StreetAutomata automata = Due.with("a".repeat(23) + "b?", "a".repeat(23));
        Due.same("43: long", automata.differenceLength(), 24);
        Due.same("60: long", automata.writeDifference(), 24);
        Due.text("60: long", Due.report(automata), "a".repeat(23) + "b");
    }

    private static void pairs() {
        Due.same("45: new object", new StreetAutomata().reachablePairs(), 13);
        Due.same("45: the empty word twice", Due.with("", "").reachablePairs(), 2);
        Due.same("45: every word twice", Due.with(".*", ".*").reachablePairs(), 2);
        Due.same("45: a pattern with itself", Due.with("a(b|c)*d", "a(b|c)*d").reachablePairs(), 6);
        Due.same("45: all pairs but those with a state 0", Due.with("(aa)*", "(aaa)*").reachablePairs(), 8);
        Due.same("45: also after a goal was met", Due.with("a|b", "b|c").reachablePairs(), 5);
    }

    private static void gatesDoNotMatter() {
        StreetAutomata automata = Due.with("ab|c", "ab|d");
        for (int street = 0; street < 6; street++) {
            automata.setGate(street, false, false);
        }
        Due.same("42: closed", automata.isSubset(0), false);
        Due.same("43: closed", automata.differenceLength(), 1);
        Due.same("44: closed", automata.sharedLength(), 2);
        Due.same("45: closed", automata.reachablePairs(), 6);
        Due.same("60: closed", automata.writeDifference(), 1);
        Due.same("61: closed", automata.writeSharedWord(), 2);
    }
}
