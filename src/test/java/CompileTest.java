/** Promises 5, 6, 18 and 19: compiling, copying and the pattern error. */
public final class CompileTest {
    private static final int NONE = StreetAutomata.NONE;

    public static void main(String[] args) {
        compiles();
        bytesNotAllowed();
        tooManyPositions();
        tooManyOpen();
        tooManyStates();
        errorIsOfLatestCompile();
        compileChangesOnlyItsSlot();
        copyPattern();
        Due.end();
    }

    private static void compiles() {
        String[] texts = {"", "a", ".", "()", "(())", "|", "||", "(|)", "a|", "|a", "a**", "a*+?*", "()*", "(a|b)+c?", "((a))"};
        int[] counts = {0, 1, 1, 0, 0, 0, 0, 0, 1, 1, 1, 1, 0, 3, 1};
        for (int index = 0; index < texts.length; index++) {
            for (int slot = 0; slot < 2; slot++) {
                StreetAutomata automata = new StreetAutomata();
                Due.same("5: \"" + texts[index] + "\"", Due.compile(automata, slot, texts[index]), counts[index]);
                Due.same("5: positions", automata.positionCount(slot), counts[index]);
                Due.same("5: the other slot", automata.positionCount(1 - slot), slot == 0 ? 5 : 4);
                Due.same("5: input is empty", automata.inputLength(), 0);
                Due.same("5: can be undone", automata.undoCount(), 1);
                Due.same("18: no error", automata.patternErrorKind(), 0);
                Due.same("19: no offset", automata.patternErrorOffset(), NONE);
            }
        }
    }

    private static void error(String text, int kind, int offset) {
        StreetAutomata automata = new StreetAutomata();
        automata.addWalker(1);
        automata.step(0, 0);
        String before = Due.world(automata);
        Due.same("5: \"" + text + "\"", Due.compile(automata, 1, text), NONE);
        Due.same("18: \"" + text + "\"", automata.patternErrorKind(), kind);
        Due.same("19: \"" + text + "\"", automata.patternErrorOffset(), offset);
        Due.same("5: input is empty after an error", automata.inputLength(), 0);
        Due.same("5: an error can't be undone", automata.undoCount(), 2);
        Due.text("5: an error changes nothing else", Due.world(automata), before);
    }

    private static void bytesNotAllowed() {
        error("*", 1, 0);
        error("+a", 1, 0);
        error("?", 1, 0);
        error("a|*", 1, 2);
        error("(*)", 1, 1);
        error("(a|+)", 1, 3);
        error(")", 1, 0);
        error("a)", 1, 1);
        error("(a))b", 1, 3);
        error("a b", 1, 1);
        error("g", 1, 0);
        error("A", 1, 0);
        error("`", 1, 0);
        error("ab\0", 1, 2);
        error("abc\u00e1", 1, 3);
        error("(", 1, 1);
        error("a(b|(c)", 1, 7);
        error("(a|", 1, 3);
        error("a(b)*)", 1, 5);
        error("a-b", 1, 1);
        error("a/b", 1, 1);
        error("a,b", 1, 1);
        error("a{b", 1, 1);
        error("a}b", 1, 1);
    }

    private static void tooManyPositions() {
        String most = "a".repeat(24);
        Due.same("5: 24 positions", Due.compile(new StreetAutomata(), 0, most), 24);
        error(most + "a", 2, 24);
        error(most + "*.", 2, 25);
        error("(" + most + "|b)*", 2, 26);
        error(most + "a(", 2, 24);
        error(most + "(", 1, 25);
        error(most + "ga", 1, 24);
    }

    private static void tooManyOpen() {
        String open = "(".repeat(20);
        Due.same("5: 20 open", Due.compile(new StreetAutomata(), 0, open + "a" + ")".repeat(20)), 1);
        error(open + "(", 3, 20);
        error(open + "a" + "(a)", 3, 21);
        error(open, 1, 20);
        Due.same("5: 20 open at once, twice",
                Due.compile(new StreetAutomata(), 0, (open + "a" + ")".repeat(20)).repeat(2)), 2);
        Due.same("5: 40 groups one after another", Due.compile(new StreetAutomata(), 0, "()".repeat(40)), 0);
        error("a" + "()".repeat(30) + "*" + open + "(", 3, 82);
    }

    private static void tooManyStates() {
        Due.same("5: 33 states", Due.compile(new StreetAutomata(), 0, ".*a...."), 6);
        error(".*a.....", 4, 8);
        error("(.*a.....)", 4, 10);
        // d leads to 32 states, c to 16 more, and each e to one; state 0 and the dead one make 60
        String many = "d.*a....|c.*a...|eeeeeeee";
        StreetAutomata sixty = new StreetAutomata();
        Due.same("5: 60 states, positions", Due.compile(sixty, 0, many), 21);
        Due.same("5: 60 states", sixty.stateCount(0), 60);
        error(many + "e", 4, 26);
        error(".*a.....(", 1, 9);
        error(".*a.....)", 1, 8);
    }

    private static void errorIsOfLatestCompile() {
        StreetAutomata automata = new StreetAutomata();
        Due.compile(automata, 0, "a(");
        Due.same("18: error", automata.patternErrorKind(), 1);
        automata.setNight(true);
        automata.undo();
        automata.copyPattern(0);
        automata.saveSnapshot();
        Due.refuses("5: slot 2", IndexOutOfBoundsException.class, () -> automata.compile(2));
        Due.same("18: undo, copyPattern and a refused compile keep the error", automata.patternErrorKind(), 1);
        Due.same("19: undo, copyPattern and a refused compile keep the offset", automata.patternErrorOffset(), 2);
        Due.compile(automata, 1, "ab");
        Due.same("18: a good compile ends it", automata.patternErrorKind(), 0);
        Due.same("19: a good compile ends it", automata.patternErrorOffset(), NONE);
        automata.restoreSnapshot();
        Due.same("18: a snapshot does not bring it back", automata.patternErrorKind(), 0);
    }

    private static void compileChangesOnlyItsSlot() {
        StreetAutomata automata = new StreetAutomata();
        automata.addWalker(0);
        automata.addWalker(1);
        automata.addWalker(0);
        automata.step(0, 0);
        automata.step(1, 0);
        automata.step(2, 5);
        Due.compile(automata, 0, "a(b|c)*d");
        Due.text("5: walkers of the slot begin anew, also with the same pattern",
                Due.gatesAndWalkers(automata), "false3 oooooo 0/0/0 1/1/1 0/0/0");
        Due.refuses("5: slot -1", IndexOutOfBoundsException.class, () -> automata.compile(-1));
        Due.refuses("5: slot 2", IndexOutOfBoundsException.class, () -> automata.compile(2));
    }

    private static void copyPattern() {
        StreetAutomata automata = Due.with("ab*", "(c|d)");
        automata.addWalker(0);
        automata.addWalker(1);
        automata.step(0, 0);
        automata.step(1, 2);
        Due.type(automata, "ab");
        Due.same("6: states", automata.copyPattern(1), automata.stateCount(1));
        Due.same("6: copied", automata.streetAt(0, 1), 2);
        Due.same("6: same states", automata.stateCount(0), automata.stateCount(1));
        Due.same("6: same words", automata.differenceLength(), NONE);
        Due.text("6: walkers of the other slot begin anew",
                Due.gatesAndWalkers(automata), "false2 oooooo 0/0/0 1/2/1");
        Due.same("6: keeps the input", automata.inputLength(), 2);
        Due.same("6: can be undone", automata.undo(), 6);
        Due.same("6: undone", automata.streetAt(0, 1), 0);
        Due.same("6: from 0", automata.copyPattern(0), 4);
        Due.same("6: from 0, copied", automata.streetAt(1, 2), 1);
        Due.same("6: again, also the same pattern", automata.copyPattern(0), 4);
        Due.compile(automata, 0, "f");
        Due.same("6: the copy stays", automata.streetAt(1, 1), 0);
        Due.refuses("6: from 2", IndexOutOfBoundsException.class, () -> automata.copyPattern(2));
        Due.refuses("6: from -1", IndexOutOfBoundsException.class, () -> automata.copyPattern(-1));
    }
}
