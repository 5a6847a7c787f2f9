/** Promises 5, 6, 18 and 19, sentence by sentence at their edges: compiling, copying and the pattern error. */
public final class CompileBoundsTest {
    private static final int NONE = StreetAutomata.NONE;
    private static final String FULL = "a" + "*".repeat(199);
    private static final String OPEN = "(".repeat(20);

    /** For each kind of error a text of one, with its offset. */
    private static final String[] WRONG = {"", ")", "a".repeat(25), OPEN + "(", ".*a....."};
    private static final int[] OFFSETS = {NONE, 0, 24, 20, 8};

    public static void main(String[] args) {
        compilesIntoASlot();
        compileEmptiesTheInput();
        anErrorChangesNothingElse();
        nothingIsLeftOfAnError();
        compileReturns();
        Edges.slot(5, "slot", (x, slot) -> x.compile(slot));
        copiesIntoTheOtherSlot();
        copyKeepsTheRest();
        copyReturns();
        Edges.slot(6, "from", (x, from) -> x.copyPattern(from));
        errorKind();
        errorOffset();
        errorIsOfLatestCompile();
        Sentences.allOpened(5, 6);
        Sentences.allOpened(18, 19);
        Due.end();
    }

    private static void compilesIntoASlot() {
        Sentences.open(5, "Compiles the input buffer as a pattern into a slot.");
        String[] texts = {"", "f", FULL, "a".repeat(24), Edges.SIXTY_STATES};
        int[] states = {2, 3, 3, 26, 60};
        for (int slot = 0; slot < 2; slot++) {
            for (int index = 0; index < texts.length; index++) {
                StreetAutomata automata = new StreetAutomata();
                String other = Due.pattern(automata, 1 - slot);
                Due.compile(automata, slot, texts[index]);
                Due.same("states of " + texts[index], automata.stateCount(slot), states[index]);
                Due.text("the other slot", Due.pattern(automata, 1 - slot), other);
                Due.same("is a change", automata.undo(), 0);
                Due.text("undone", Due.patterns(automata), Due.patterns(new StreetAutomata()));
            }
        }
    }

    private static void compileEmptiesTheInput() {
        Sentences.open(5, "The input buffer is empty afterwards, also after a pattern error");
        for (String text : new String[] {"", "a", FULL, WRONG[1], WRONG[2], WRONG[3], WRONG[4], FULL.substring(0, 199) + "("}) {
            StreetAutomata automata = new StreetAutomata();
            Due.compile(automata, 0, text);
            Due.same("length after " + text, automata.inputLength(), 0);
            Due.same("the next one, after " + text, automata.compile(0), 0);
        }
    }

    private static void anErrorChangesNothingElse() {
        Sentences.open(5, "after a pattern error nothing else changes except the pattern error.");
        for (int kind = 1; kind <= 4; kind++) {
            for (int slot = 0; slot < 2; slot++) {
                StreetAutomata automata = Edges.busy();
                Due.compile(automata, slot, WRONG[kind]);
                Due.same("the error", automata.patternErrorKind(), kind);
                StreetAutomata twin = Edges.busy();
                twin.truncateInput(0);
                Due.text("kind " + kind, Due.allButError(automata), Due.allButError(twin));
            }
        }
    }

    /** What stands of a text that was refused must not show in the next one. */
    private static void nothingIsLeftOfAnError() {
        Sentences.open(5, "after a pattern error nothing else changes except the pattern error.");
        String[] wrong = {"a)", "a*g", "(", "(a*", "ab|c*(d|e*", "(a)|b(c)*)", WRONG[2], WRONG[3], WRONG[4], "ab" + OPEN + "c*("};
        for (String text : wrong) {
            for (String next : new String[] {"", "*", "|?", "b", "(+)", "()", "(", ")", "b|c", "(b)*", "a?|", OPEN + "*"}) {
                StreetAutomata automata = new StreetAutomata();
                Due.compile(automata, 0, text);
                StreetAutomata fresh = new StreetAutomata();
                String what = next + " after " + text;
                Due.same(what, Due.compile(automata, 0, next), Due.compile(fresh, 0, next));
                Due.text(what, Due.everything(automata), Due.everything(fresh));
            }
        }
    }

    private static void compileReturns() {
        Sentences.open(5, "Returns the number of positions, or NONE if the pattern has an error.");
        for (int slot = 0; slot < 2; slot++) {
            for (int count = 0; count <= 24; count++) {
                Due.same(count + " positions", Due.compile(new StreetAutomata(), slot, "a?".repeat(count)), count);
            }
            for (int kind = 1; kind <= 4; kind++) {
                Due.same("kind " + kind, Due.compile(new StreetAutomata(), slot, WRONG[kind]), NONE);
            }
            Due.same("a full buffer", Due.compile(new StreetAutomata(), slot, FULL), 1);
            Due.same("an error at its end", Due.compile(new StreetAutomata(), slot, FULL.substring(0, 199) + ")"), NONE);
        }
    }

    private static void copiesIntoTheOtherSlot() {
        Sentences.open(6, "Copies the pattern of a slot into the other slot.");
        for (String text : new String[] {"", "f", "a".repeat(24), Edges.SIXTY_STATES}) {
            for (int from = 0; from < 2; from++) {
                StreetAutomata automata = new StreetAutomata();
                Due.compile(automata, from, text);
                String copied = Due.pattern(automata, from);
                automata.copyPattern(from);
                Due.text("from " + from, Due.pattern(automata, 1 - from), copied);
                Due.text("from " + from + ", it stays", Due.pattern(automata, from), copied);
                Due.compile(automata, from, "d");
                Due.text("from " + from + ", apart from the first one", Due.pattern(automata, 1 - from), copied);
            }
        }
    }

    private static void copyKeepsTheRest() {
        Sentences.open(6, "Copies the pattern of a slot into the other slot.");
        StreetAutomata automata = Edges.walkers(4);
        for (int walker = 0; walker < 4; walker++) {
            automata.step(walker, 0);
        }
        Due.compile(automata, 0, "a)");
        automata.writeWord(0, 2, 0);
        Due.type(automata, "abc");
        automata.copyPattern(1);
        Due.text("walkers of slot 0 alone begin anew", Due.gatesAndWalkers(automata), "false4 oooooo 0/0/0 1/1/1 0/0/0 1/1/1");
        automata.copyPattern(1);
        Due.text("the same pattern again", Due.gatesAndWalkers(automata), "false4 oooooo 0/0/0 1/1/1 0/0/0 1/1/1");
        Due.same("input", automata.inputLength(), 3);
        Due.same("error", automata.patternErrorOffset(), 1);
        Due.text("report", Due.report(automata), "ad");
        Due.same("each is a change", automata.undo(), 7);
        automata.undo();
        Due.text("undone", Due.gatesAndWalkers(automata), "false4 oooooo 0/1/1 1/1/1 0/1/1 1/1/1");
        Due.text("patterns undone", Due.patterns(automata), Due.patterns(new StreetAutomata()));
    }

    private static void copyReturns() {
        Sentences.open(6, "Returns the number of states of its deterministic automaton.");
        String[] texts = {"", ".*", "a(b|c)*d", "a".repeat(24), Edges.SIXTY_STATES};
        int[] states = {2, 2, 6, 26, 60};
        for (int index = 0; index < texts.length; index++) {
            Due.same("from 0", Due.with(texts[index], "a").copyPattern(0), states[index]);
            Due.same("from 1", Due.with("a", texts[index]).copyPattern(1), states[index]);
        }
    }

    private static void errorKind() {
        Sentences.open(18, "Returns the kind (1 to 4) of the error of the latest call of compile, or 0");
        Due.same("no call", new StreetAutomata().patternErrorKind(), 0);
        for (int kind = 0; kind <= 4; kind++) {
            StreetAutomata automata = new StreetAutomata();
            Due.compile(automata, 1, WRONG[kind]);
            Due.same("kind " + kind, automata.patternErrorKind(), kind);
        }
    }

    private static void errorOffset() {
        Sentences.open(19, "Returns the offset of the error of the latest call of compile, or NONE if patternErrorKind() is 0.");
        Due.same("no call", new StreetAutomata().patternErrorOffset(), NONE);
        for (int kind = 0; kind <= 4; kind++) {
            StreetAutomata automata = new StreetAutomata();
            Due.compile(automata, 1, WRONG[kind]);
            Due.same("kind " + kind, automata.patternErrorOffset(), OFFSETS[kind]);
        }
        for (int offset = 0; offset < 200; offset++) {
            StreetAutomata automata = new StreetAutomata();
            Due.compile(automata, 0, FULL.substring(0, offset) + ")");
            Due.same("of a wrong byte", automata.patternErrorOffset(), offset);
        }
        StreetAutomata open = new StreetAutomata();
        Due.compile(open, 0, "(" + FULL.substring(1));
        Due.same("'*' behind '('", open.patternErrorOffset(), 1);
        Due.compile(open, 0, "(" + FULL.substring(0, 199));
        Due.same("the end of a full buffer", open.patternErrorOffset(), 200);
    }

    private static void errorIsOfLatestCompile() {
        Sentences.open(18, "of the latest call of compile");
        Sentences.open(19, "of the latest call of compile");
        StreetAutomata automata = Edges.walkers(1);
        automata.saveSnapshot();
        for (int kind : new int[] {1, 2, 0, 3, 4, 0}) {
            Due.compile(automata, kind % 2, WRONG[kind]);
            automata.setNight(true);
            automata.undo();
            automata.copyPattern(1);
            automata.walkWord(0);
            Due.answer(() -> automata.compile(2));
            Due.answer(() -> automata.compile(-1));
            automata.restoreSnapshot();
            Due.same("kind " + kind, automata.patternErrorKind(), kind);
            Due.same("offset of kind " + kind, automata.patternErrorOffset(), OFFSETS[kind]);
        }
    }
}
