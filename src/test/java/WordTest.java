/** Promises 36 to 41: words. */
public final class WordTest {
    private static final int NONE = StreetAutomata.NONE;

    public static void main(String[] args) {
        acceptsInput();
        wordCount();
        wordCountWithPrefix();
        lengths();
        gatesDoNotMatter();
        Due.end();
    }

    private static void accepts(int slot, String word, boolean due) {
        StreetAutomata automata = new StreetAutomata();
        Due.type(automata, word);
        Due.same("36: \"" + word + "\" in slot " + slot, automata.acceptsInput(slot), due);
        Due.same("36: it stays in the buffer", automata.inputLength(), word.length());
        Due.same("36: and again", automata.acceptsInput(slot), due);
        Due.same("36: is no change", automata.undoCount(), 0);
    }

    private static void acceptsInput() {
        accepts(0, "", false);
        accepts(1, "", true);
        accepts(0, "ad", true);
        accepts(0, "abccbd", true);
        accepts(0, "a", false);
        accepts(0, "add", false);
        accepts(0, "da", false);
        accepts(1, "abacabd", true);
        accepts(1, "d", true);
        accepts(1, "abda", false);
        accepts(1, "ab\0", false);
        accepts(1, "ab.", false);
        accepts(1, "abg", false);
        accepts(1, "ab`", false);
        accepts(1, "AB", false);
        accepts(0, "a" + "bc".repeat(99) + "d", true);
        accepts(0, "a" + "bc".repeat(99) + "b", false);
        StreetAutomata every = Due.with(".*", "(.|)");
        Due.type(every, "abc.def");
        Due.same("36: a dot is no letter", every.acceptsInput(0), false);
        every.truncateInput(3);
        Due.same("36: letters", every.acceptsInput(0), true);
        Due.same("36: too long", every.acceptsInput(1), false);
    }

    private static void wordCount() {
        StreetAutomata automata = Due.with("a(b|c)*d", ".*");
        long power = 1;
        for (int length = 0; length <= 20; length++) {
            Due.same("37: a(b|c)*d " + length, automata.wordCount(0, length), length < 2 ? 0 : 1L << (length - 2));
            Due.same("37: .* " + length, automata.wordCount(1, length), power);
            power *= 6;
        }
        StreetAutomata twice = Due.with("a|a|.", "(ab|ac)*d?");
        Due.same("37: a word counts once", twice.wordCount(0, 1), 6);
        Due.same("37: the empty word", twice.wordCount(0, 0), 0);
        Due.same("37: the empty word", twice.wordCount(1, 0), 1);
        Due.same("37: 19", twice.wordCount(1, 19), 512);
        Due.same("37: 20", twice.wordCount(1, 20), 1024);
        Due.same("37: too long", twice.wordCount(0, 2), 0);
        automata.wordCount(0, 20);
        Due.same("37: no rest of a longer count", automata.wordCount(0, 3), 2);
    }

    private static long prefixed(String zero, String prefix, int length) {
        StreetAutomata automata = Due.with(zero, "f");
        Due.type(automata, prefix);
        long count = automata.wordCountWithPrefix(0, length);
        Due.same("38: the prefix stays", automata.inputLength(), prefix.length());
        return count;
    }

    private static void wordCountWithPrefix() {
        Due.same("38: no prefix", prefixed("a(b|c)*d", "", 5), 8);
        Due.same("38: a", prefixed("a(b|c)*d", "a", 5), 8);
        Due.same("38: ab", prefixed("a(b|c)*d", "ab", 5), 4);
        Due.same("38: abd", prefixed("a(b|c)*d", "abd", 5), 0);
        Due.same("38: abd", prefixed("a(b|c)*d", "abd", 3), 1);
        Due.same("38: as long as the word, not accepted", prefixed("a(b|c)*d", "abc", 3), 0);
        Due.same("38: longer than the word", prefixed("a(b|c)*d", "abd", 2), 0);
        Due.same("38: longer than the word", prefixed(".*", "abd", 2), 0);
        Due.same("38: no letter", prefixed(".*", "a.", 4), 0);
        Due.same("38: no letter", prefixed(".*", "g", 4), 0);
        Due.same("38: no letter, 60 states", prefixed("d.*a....|c.*a...|eeeeeeee", "g", 5), 0);
        Due.same("38: no letter, and longer", prefixed(".*", "ab\0", 1), 0);
        Due.same("38: empty word", prefixed("a*", "", 0), 1);
        Due.same("38: 21 letters", prefixed(".*", "a".repeat(21), 20), 0);
        Due.same("38: 20 letters", prefixed(".*", "a".repeat(20), 20), 1);
        Due.same("38: most", prefixed(".*", "a", 20), 609359740010496L);
        Due.same("38: dead", prefixed("ab", "b", 2), 0);
    }

    private static void check(String text, int shortest, int longest) {
        StreetAutomata automata = Due.with("a(b|c)*d", text);
        String what = "\"" + text + "\"";
        Due.same("39: " + what, automata.shortestLength(1), shortest);
        Due.same("40: " + what, automata.isFinite(1), longest != NONE);
        Due.same("41: " + what, automata.longestLength(1), longest);
        Due.same("39: slot 0", automata.shortestLength(0), 2);
        Due.same("40: slot 0", automata.isFinite(0), false);
        Due.same("41: slot 0", automata.longestLength(0), NONE);
    }

    private static void lengths() {
        check("", 0, 0);
        check("()*", 0, 0);
        check("(|())+", 0, 0);
        check("a", 1, 1);
        check(".", 1, 1);
        check("a?", 0, 1);
        check("a*", 0, NONE);
        check("a+", 1, NONE);
        check("ab|cde", 2, 3);
        check("abc|d?", 0, 3);
        check("(a|bc)(d|ef)?", 1, 4);
        check("a".repeat(24), 24, 24);
        check("a?".repeat(24), 0, 24);
        check("a".repeat(23) + "b*", 23, NONE);
        check("(ab)*c", 1, NONE);
        check("a|b(c|d)+", 1, NONE);
        check("abc|ad*", 1, NONE);
        check("d.*a....|c.*a...|eeeeeeee", 5, NONE);
        check("(a|b)(c|d)(e|f)", 3, 3);
    }

    private static void gatesDoNotMatter() {
        StreetAutomata automata = new StreetAutomata();
        for (int street = 0; street < 6; street++) {
            automata.setGate(street, false, false);
        }
        Due.type(automata, "ad");
        Due.same("36: closed", automata.acceptsInput(0), true);
        Due.same("37: closed", automata.wordCount(0, 4), 4);
        Due.same("38: closed", automata.wordCountWithPrefix(0, 2), 1);
        Due.same("39: closed", automata.shortestLength(0), 2);
        Due.same("40: closed", automata.isFinite(0), false);
        Due.same("41: closed", automata.longestLength(0), NONE);
    }
}
