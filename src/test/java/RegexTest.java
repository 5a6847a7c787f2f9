import java.util.regex.Pattern;

/** Promises 5, 29, 30 and 37: which words a pattern accepts, compared with java.util.regex word by word. */
public final class RegexTest {
    private static final int LONGEST = 5;

    public static void main(String[] args) {
        Texts texts = new Texts(1);
        for (int run = 0; run < 400; run++) {
            String text = texts.pattern();
            PlainPattern plain = new PlainPattern(text);
            if (plain.errorKind == 0) {
                compare(text, Pattern.compile(PlainPattern.regex(plain.tree, plain)));
            }
        }
        Due.end();
    }

    private static void compare(String text, Pattern pattern) {
        StreetAutomata automata = Due.with(text, "");
        int states = automata.stateCount(0);
        int[][] next = new int[states][6];
        boolean[] accepting = new boolean[states];
        for (int state = 0; state < states; state++) {
            accepting[state] = automata.isAccepting(0, state);
            for (int street = 0; street < 6; street++) {
                next[state][street] = automata.transition(0, state, street);
            }
        }
        for (int length = 0; length <= LONGEST; length++) {
            Due.same("37: words of length " + length + " of " + text,
                    automata.wordCount(0, length), count("", 0, length, next, accepting, pattern, text));
        }
    }

    private static int count(String word, int state, int rest, int[][] next, boolean[] accepting, Pattern pattern,
            String text) {
        if (rest == 0) {
            boolean due = pattern.matcher(word).matches();
            Due.same("30: \"" + word + "\" of " + text, accepting[state], due);
            return due ? 1 : 0;
        }
        int sum = 0;
        for (int street = 0; street < 6; street++) {
            sum += count(word + (char) ('a' + street), next[state][street], rest - 1, next, accepting, pattern, text);
        }
        return sum;
    }
}
