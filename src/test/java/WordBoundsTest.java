/** Promises 36 to 41, sentence by sentence at their edges: words. */
public final class WordBoundsTest {
    private static final int NONE = StreetAutomata.NONE;
    private static final String CHAIN = "a".repeat(24);

    public static void main(String[] args) {
        acceptsInput();
        acceptsLettersAlone();
        inputStays();
        wordCount();
        wordCountWithPrefix();
        noWordWithSuchAPrefix();
        shortestLength();
        isFinite();
        longestLength();
        gatesDoNotMatter();
        Sentences.allOpened(36, 41);
        Due.end();
    }

    private static Edges.IndexCall accepts(String word) {
        return (x, slot) -> {
            Due.type(x, word);
            return x.acceptsInput(slot);
        };
    }

    private static void acceptsInput() {
        Sentences.open(36, "Tells whether a pattern accepts the word in the input buffer");
        Edges.inEachSlot("", accepts(""), true);
        Edges.inEachSlot("a", accepts(""), false);
        Edges.inEachSlot("a*", accepts(""), true);
        Edges.inEachSlot("a+", accepts(""), false);
        Edges.inEachSlot("a", accepts("a"), true);
        Edges.inEachSlot("a", accepts("aa"), false);
        Edges.inEachSlot("", accepts("a"), false);
        Edges.inEachSlot(CHAIN, accepts("a".repeat(23)), false);
        Edges.inEachSlot(CHAIN, accepts(CHAIN), true);
        Edges.inEachSlot(CHAIN, accepts("a".repeat(25)), false);
        Edges.inEachSlot("a*", accepts("a".repeat(200)), true);
        Edges.inEachSlot("(aa)*", accepts("a".repeat(199)), false);
        Edges.inEachSlot("a*", accepts("a".repeat(199) + "b"), false);
        Edges.inEachSlot("a*b", accepts("a".repeat(199) + "b"), true);
        Edges.inEachSlot("a*", accepts("b" + "a".repeat(199)), false);
        Edges.slot(36, "slot", (x, slot) -> x.acceptsInput(slot));
    }

    private static void acceptsLettersAlone() {
        Sentences.open(36, "Returns whether the buffer consists only of letters a to f and the pattern accepts this word.");
        for (int value = 0; value < 256; value++) {
            boolean isLetter = value >= 'a' && value <= 'f';
            Edges.inEachSlot(".*", accepts("" + (char) value), isLetter);
            Edges.inEachSlot(".*", accepts("abc" + (char) value + "def"), isLetter);
            Edges.inEachSlot("(|.)*", accepts("a".repeat(199) + (char) value), isLetter);
        }
        Edges.inEachSlot("ab", accepts("ab\0"), false);
        Edges.inEachSlot("ab", accepts("\0ab"), false);
    }

    private static void inputStays() {
        Sentences.open(36, "which stays in the buffer.");
        Sentences.open(38, "which stays in the buffer.");
        for (String word : new String[] {"", "a", "ab.", "g", "a".repeat(21), "a".repeat(200)}) {
            for (int slot = 0; slot < 2; slot++) {
                StreetAutomata automata = new StreetAutomata();
                Due.type(automata, word);
                StreetAutomata twin = new StreetAutomata();
                Due.type(twin, word);
                automata.acceptsInput(slot);
                automata.wordCountWithPrefix(slot, 20);
                automata.wordCountWithPrefix(slot, 0);
                Due.text("after the question", Due.everything(automata), Due.everything(twin));
            }
        }
    }

    private static Edges.IndexCall count(int length) {
        return (x, slot) -> x.wordCount(slot, length);
    }

    private static void wordCount() {
        Sentences.open(37, "Counts the words of a length that a pattern accepts.");
        Sentences.open(37, "Returns the number of words.");
        long all = 1;
        for (int length = 0; length <= 20; length++) {
            Edges.inEachSlot(".*", count(length), all);
            Edges.inEachSlot(".+", count(length), length == 0 ? 0 : all);
            Edges.inEachSlot("a*", count(length), 1);
            Edges.inEachSlot("", count(length), length == 0 ? 1 : 0);
            Edges.inEachSlot("a".repeat(19), count(length), length == 19 ? 1 : 0);
            Edges.inEachSlot(".".repeat(20), count(length), length == 20 ? all : 0);
            Edges.inEachSlot(".".repeat(21), count(length), 0);
            Edges.inEachSlot(CHAIN, count(length), 0);
            all *= 6;
        }
        Edges.inEachSlot("a|a|(a)", count(1), 1);
        Edges.inEachSlot("a?".repeat(24), count(20), 1);
        StreetAutomata automata = Due.with(Edges.SIXTY_STATES, "f");
        Due.same("a long one", automata.wordCount(0, 20), new PlainPattern(Edges.SIXTY_STATES).count(0, 20).longValueExact());
        Due.same("a short one after a long one", automata.wordCount(1, 1), 1);
        Due.same("none after a long one", automata.wordCount(1, 20), 0);
        Edges.slot(37, "slot", (x, slot) -> x.wordCount(slot, 20));
        Edges.length(37, (x, slot, length) -> x.wordCount(slot, length));
    }

    private static Edges.IndexCall count(String prefix, int length) {
        return (x, slot) -> {
            Due.type(x, prefix);
            return x.wordCountWithPrefix(slot, length);
        };
    }

    private static void wordCountWithPrefix() {
        Sentences.open(38, "Counts the words of a length that a pattern accepts and that begin with the word in the input buffer");
        long all = 1;
        for (int rest = 0; rest <= 20; rest++) {
            Edges.inEachSlot(".*", count("f".repeat(20 - rest), 20), all);
            Edges.inEachSlot("a*", count("a".repeat(20 - rest), 20), 1);
            Edges.inEachSlot(".*b", count("a".repeat(20 - rest), 20), rest == 0 ? 0 : all / 6);
            all *= 6;
        }
        Edges.inEachSlot("", count("", 0), 1);
        Edges.inEachSlot("a", count("", 0), 0);
        Edges.inEachSlot("a", count("", 1), 1);
        Edges.inEachSlot("a", count("a", 1), 1);
        Edges.inEachSlot("ab?", count("a", 1), 1);
        Edges.inEachSlot("ab?", count("a", 2), 1);
        Edges.inEachSlot("ab?", count("a", 3), 0);
        Edges.inEachSlot("ab", count("b", 2), 0);
        Edges.inEachSlot(CHAIN, count("a", 20), 0);
        Edges.slot(38, "slot", (x, slot) -> x.wordCountWithPrefix(slot, 20));
        Edges.length(38, (x, slot, length) -> x.wordCountWithPrefix(slot, length));
    }

    private static void noWordWithSuchAPrefix() {
        Sentences.open(38, "0 if the buffer has more bytes than the length, or a byte that is not a letter a to f.");
        for (int length = 0; length <= 20; length++) {
            Edges.inEachSlot("a*", count("a".repeat(length), length), 1);
            Edges.inEachSlot("a*", count("a".repeat(length + 1), length), 0);
            Edges.inEachSlot("a*", count("a".repeat(200), length), 0);
        }
        for (int value = 0; value < 256; value++) {
            boolean isLetter = value >= 'a' && value <= 'f';
            Edges.inEachSlot(".*", count("" + (char) value, 1), isLetter ? 1 : 0);
            Edges.inEachSlot(".*", count("" + (char) value, 3), isLetter ? 36 : 0);
            Edges.inEachSlot(".*", count((char) value + "ab", 3), isLetter ? 1 : 0);
            Edges.inEachSlot(".*", count("a".repeat(19) + (char) value, 20), isLetter ? 1 : 0);
        }
        Edges.inEachSlot(".*", count("g", 0), 0);
        StreetAutomata most = Due.with(Edges.SIXTY_STATES, Edges.SIXTY_STATES);
        most.wordCount(0, 20);
        for (int length = 0; length <= 20; length++) {
            most.truncateInput(0);
            Due.type(most, "g");
            Due.same("no letter, 60 states", most.wordCountWithPrefix(length % 2, length), 0);
            Due.type(most, "a".repeat(length));
            Due.same("one byte more, 60 states", most.wordCountWithPrefix(length % 2, length), 0);
        }
        Edges.inEachSlot("", count("\0", 0), 0);
    }

    private static void shortestLength() {
        Sentences.open(39, "Returns the length of the shortest words that a pattern accepts.");
        Edges.IndexCall call = (x, slot) -> x.shortestLength(slot);
        Edges.inEachSlot("", call, 0);
        Edges.inEachSlot("a|", call, 0);
        Edges.inEachSlot("a*", call, 0);
        Edges.inEachSlot("a+", call, 1);
        Edges.inEachSlot(".", call, 1);
        Edges.inEachSlot("aaa|bb", call, 2);
        Edges.inEachSlot("a".repeat(23) + "a?", call, 23);
        Edges.inEachSlot(CHAIN, call, 24);
        Edges.inEachSlot("(" + CHAIN + ")+", call, 24);
        Edges.slot(39, "slot", call);
    }

    private static void isFinite() {
        Sentences.open(40, "Returns whether a pattern accepts only a finite number of words.");
        Edges.IndexCall call = (x, slot) -> x.isFinite(slot);
        for (String text : new String[] {"", "()*", "(|)+", "a", "a?", ".", "a|bb|", CHAIN, "a?".repeat(24), "(()*a)?"}) {
            Edges.inEachSlot(text, call, true);
        }
        for (String text : new String[] {"a*", "a+", "a?+", "(a|)*", "ba*", "a*b", "a|b*", "a".repeat(23) + "a*",
            "(" + CHAIN + ")*", Edges.SIXTY_STATES}) {
            Edges.inEachSlot(text, call, false);
        }
        Edges.slot(40, "slot", call);
    }

    private static void longestLength() {
        Sentences.open(41, "Returns the length of the longest words that a pattern accepts, or NONE if there are words of any length.");
        Edges.IndexCall call = (x, slot) -> x.longestLength(slot);
        Edges.inEachSlot("", call, 0);
        Edges.inEachSlot("()*|()+", call, 0);
        Edges.inEachSlot("a?", call, 1);
        Edges.inEachSlot(".", call, 1);
        Edges.inEachSlot("aaa|bb|", call, 3);
        Edges.inEachSlot("a".repeat(23) + "|b", call, 23);
        Edges.inEachSlot(CHAIN, call, 24);
        Edges.inEachSlot("a?".repeat(24), call, 24);
        Edges.inEachSlot("a*", call, NONE);
        Edges.inEachSlot("a+", call, NONE);
        Edges.inEachSlot("a|b+", call, NONE);
        Edges.inEachSlot("a*b", call, NONE);
        Edges.inEachSlot("a".repeat(23) + "a*", call, NONE);
        Edges.inEachSlot("(" + CHAIN + ")+", call, NONE);
        Edges.inEachSlot(Edges.SIXTY_STATES, call, NONE);
        Edges.slot(41, "slot", call);
    }

    private static void gatesDoNotMatter() {
        StreetAutomata automata = Due.with("abc", "a*");
        for (int street = 0; street < 6; street++) {
            automata.setGate(street, false, false);
        }
        Due.type(automata, "a");
        Due.about("words, with all gates closed");
        Due.same("acceptsInput", automata.acceptsInput(1), true);
        Due.same("wordCount", automata.wordCount(0, 3), 1);
        Due.same("wordCountWithPrefix", automata.wordCountWithPrefix(0, 3), 1);
        Due.same("shortestLength", automata.shortestLength(0), 3);
        Due.same("isFinite", automata.isFinite(1), false);
        Due.same("longestLength", automata.longestLength(0), 3);
    }
}
