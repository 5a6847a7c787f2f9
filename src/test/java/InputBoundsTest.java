import java.util.NoSuchElementException;

/** Promises 1 to 4, sentence by sentence at their edges: a new object and the input buffer. */
public final class InputBoundsTest {
    private static final int NONE = StreetAutomata.NONE;

    public static void main(String[] args) {
        newObjectHasTwoPatterns();
        newObjectHasNothingElse();
        appendPutsFourBytesOfEachParameter();
        appendPutsThemBehindTheOthers();
        appendUpTo200();
        truncateInputKeepsTheBegin();
        truncateInputToEachLengthThatIsThere();
        truncateInputRefuses();
        inputLength();
        Sentences.allOpened(1, 4);
        Due.end();
    }

    private static StreetAutomata holding(int length) {
        StreetAutomata automata = new StreetAutomata();
        Due.compile(automata, 0, "a*");
        Due.type(automata, "a".repeat(length));
        return automata;
    }

    private static void newObjectHasTwoPatterns() {
        Sentences.open(1, "Compiles the pattern \"a(b|c)*d\" into slot 0 and the pattern \"(ab|ac)*d?\" into slot 1.");
        StreetAutomata fresh = new StreetAutomata();
        Due.text("slot 0", Due.pattern(fresh, 0),
                "first 2 last 16 empty false loops 1 streets>follow 0>28 1>28 2>28 3>0 states 6 words 262144");
        Due.text("slot 1", Due.pattern(fresh, 1),
                "first 42 last 52 empty true loops 1 streets>follow 0>4 1>42 0>16 2>42 3>0 states 6 words 1024");
    }

    private static void newObjectHasNothingElse() {
        Sentences.open(1, "There are no walkers, the input buffer and the report are empty, nothing can be undone");
        String dueOfNew = Due.everything(new StreetAutomata());
        StreetAutomata fresh = new StreetAutomata();
        Due.same("walkerCount", fresh.walkerCount(), 0);
        Due.same("inputLength", fresh.inputLength(), 0);
        Due.same("reportByte", fresh.reportByte(0), NONE);
        Due.same("undoCount", fresh.undoCount(), 0);
        Due.same("totalSteps", fresh.totalSteps(), 0);
        Edges.refuses("walker 0", Edges.NO_INDEX, StreetAutomata::new, x -> x.walkerState(0));
        Edges.refuses("a snapshot", NoSuchElementException.class, StreetAutomata::new, x -> x.restoreSnapshot());
        Due.same("undo", fresh.undo(), NONE);
        Due.text("undo changes nothing", Due.bothTimes(fresh), Due.bothTimes(new StreetAutomata()));
        Due.same("the empty buffer compiles", new StreetAutomata().compile(0), 0);
        changeEverything(fresh);
        Due.text("another object shares nothing", Due.everything(new StreetAutomata()), dueOfNew);
    }

    private static void changeEverything(StreetAutomata automata) {
        Due.compile(automata, 0, "f");
        Due.compile(automata, 1, "a)");
        automata.addWalker(0);
        automata.step(0, 0);
        automata.setGate(0, false, false);
        automata.setNight(true);
        automata.saveSnapshot();
        automata.writeWord(0, 1, 0);
        Due.type(automata, "abc");
    }

    private static void appendPutsFourBytesOfEachParameter() {
        Sentences.open(2, "Appends 20 bytes to the input buffer: the four bytes of each parameter, the most significant byte first.");
        for (int place = 0; place < 20; place++) {
            for (int value : new int[] {0, 1, 0x60, 0x67, 0x7f, 0x80, 0xe1, 0xff}) {
                int[] words = {0x61616161, 0x61616161, 0x61616161, 0x61616161, 0x61616161};
                int shift = 24 - place % 4 * 8;
                words[place / 4] = words[place / 4] & ~(0xff << shift) | value << shift;
                wrongByteAt("byte " + value + " at place " + place, words, place);
            }
        }
        for (int parameter = 0; parameter < 5; parameter++) {
            for (int value : new int[] {0, -1, Integer.MIN_VALUE, Integer.MAX_VALUE}) {
                int[] words = {0x62626262, 0x62626262, 0x62626262, 0x62626262, 0x62626262};
                words[parameter] = value;
                wrongByteAt(value + " as parameter " + parameter, words, 4 * parameter);
            }
        }
        StreetAutomata letters = new StreetAutomata();
        letters.append(0x61626364, 0x65666162, 0x63646566, 0x66656463, 0x62612e61);
        Due.same("20 positions", letters.compile(1), 20);
        int[] due = {0, 1, 2, 3, 4, 5, 0, 1, 2, 3, 4, 5, 5, 4, 3, 2, 1, 0, NONE, 0};
        for (int position = 1; position <= 20; position++) {
            Due.same("position " + position, letters.streetAt(1, position), due[position - 1]);
        }
    }

    private static void wrongByteAt(String what, int[] words, int place) {
        StreetAutomata automata = new StreetAutomata();
        Due.same(what, automata.append(words[0], words[1], words[2], words[3], words[4]), 20);
        Due.same(what + ", compile", automata.compile(0), NONE);
        Due.same(what + ", kind", automata.patternErrorKind(), 1);
        Due.same(what + ", offset", automata.patternErrorOffset(), place);
    }

    private static void appendPutsThemBehindTheOthers() {
        Sentences.open(2, "Appends 20 bytes to the input buffer");
        StreetAutomata automata = new StreetAutomata();
        Due.type(automata, "fed");
        Due.same("3 and 20", automata.append(0x61616161, 0x62626262, 0x63636363, 0x64646464, 0x65656565), 23);
        Due.same("is no change", automata.undoCount(), 0);
        automata.compile(0);
        int[] due = {5, 4, 3, 0, 0, 0, 0, 1, 1, 1, 1, 2, 2, 2, 2, 3, 3, 3, 3, 4, 4, 4, 4};
        for (int position = 1; position <= 23; position++) {
            Due.same("position " + position, automata.streetAt(0, position), due[position - 1]);
        }
    }

    private static void appendUpTo200() {
        Sentences.open(2, "Returns the new length of the buffer, or NONE (and nothing is appended) if it would be greater than 200.");
        for (int length = 0; length <= 200; length++) {
            StreetAutomata automata = holding(length);
            boolean fits = length + 20 <= 200;
            Due.same("to " + length, automata.append(0, 0, 0, 0, 0), fits ? length + 20 : NONE);
            Due.same("length, to " + length, automata.inputLength(), fits ? length + 20 : length);
            Due.same("what stands, to " + length, automata.acceptsInput(0), !fits);
        }
        StreetAutomata full = holding(200);
        full.append(-1, -1, -1, -1, -1);
        Due.text("refused, all the rest", Due.everything(full), Due.everything(holding(200)));
    }

    private static void truncateInputKeepsTheBegin() {
        Sentences.open(3, "Shortens the input buffer.");
        for (int length = 0; length <= 6; length++) {
            StreetAutomata automata = new StreetAutomata();
            Due.type(automata, "fedcba");
            automata.truncateInput(length);
            Due.same("is no change", automata.undoCount(), 0);
            automata.append(0x61616161, 0x61616161, 0x61616161, 0x61616161, 0x61616161);
            automata.truncateInput(length + 1);
            Due.same("what is cut off does not come back", automata.compile(0), length + 1);
            for (int position = 1; position <= length; position++) {
                Due.same("position " + position + " of " + length, automata.streetAt(0, position), 6 - position);
            }
            Due.same("behind " + length, automata.streetAt(0, length + 1), 0);
        }
    }

    private static void truncateInputToEachLengthThatIsThere() {
        for (int present : new int[] {0, 1, 20, 200}) {
            for (int length = 0; length <= present; length++) {
                Sentences.open(3, "- `length`: the new length");
                StreetAutomata automata = holding(present);
                Due.same(length + " of " + present, automata.truncateInput(length), length);
                Sentences.open(3, "Returns the new length.");
                Due.same(length + " of " + present, automata.inputLength(), length);
                Due.same(length + " of " + present + ", the word", automata.acceptsInput(0), true);
            }
        }
    }

    private static void truncateInputRefuses() {
        Sentences.open(3, "Throws `IllegalArgumentException` if `length` is negative or greater than the present length");
        for (int present : new int[] {0, 1, 20, 199, 200}) {
            for (int length : new int[] {-1, present + 1, 201, Integer.MIN_VALUE, Integer.MAX_VALUE}) {
                Edges.refuses(length + " of " + present, Edges.NO_LENGTH, () -> holding(present), x -> x.truncateInput(length));
            }
        }
        for (int length : new int[] {-1, 6, Integer.MIN_VALUE, Integer.MAX_VALUE}) {
            Edges.refuses(length + " of 5", Edges.NO_LENGTH, Edges::busy, x -> x.truncateInput(length));
        }
    }

    private static void inputLength() {
        Sentences.open(4, "Returns the number of bytes in the input buffer.");
        StreetAutomata automata = Edges.walkers(1);
        Due.same("empty", automata.inputLength(), 0);
        for (int times = 1; times <= 10; times++) {
            automata.append(0, 0, 0, 0, 0);
            Due.same(times + " times 20", automata.inputLength(), 20 * times);
        }
        automata.append(0, 0, 0, 0, 0);
        Due.same("full", automata.inputLength(), 200);
        automata.truncateInput(1);
        Due.same("one byte", automata.inputLength(), 1);
        Due.answer(() -> automata.compile(2));
        Due.answer(() -> automata.walkWord(1));
        Due.same("refused calls keep it", automata.inputLength(), 1);
        automata.walkWord(0);
        Due.same("walked", automata.inputLength(), 0);
        Due.type(automata, "ab");
        automata.undo();
        Due.same("undo keeps it", automata.inputLength(), 2);
        automata.compile(0);
        Due.same("compiled", automata.inputLength(), 0);
        Due.type(automata, "a(");
        automata.compile(0);
        Due.same("an error", automata.inputLength(), 0);
    }
}
