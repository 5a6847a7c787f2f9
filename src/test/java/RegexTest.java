import java.util.regex.Pattern;

/** Promises 5, 29, 30 and 37: which words a pattern accepts, compared with java.util.regex word by word. */
public final class RegexTest {
    private static final int LONGEST = 5;
    private static long seed = 1;

    public static void main(String[] args) {
        for (int run = 0; run < 400; run++) {
            StringBuilder text = new StringBuilder();
            choice(text, 0);
            PlainPattern plain = new PlainPattern(text.toString());
            if (plain.errorKind == 0) {
                compare(text.toString(), Pattern.compile(PlainPattern.regex(plain.tree, plain)));
            }
        }
        Due.end();
    }

    private static void compare(String text, Pattern pattern) {
        StreetAutomata automata = Due.with(text, "");
        int states = automata.stateCount(0);
        int[][] next = new int[states][6];
        boolean[] accepting = new boolean[states];
        for (int state = 0; state < states; state++) {
            accepting[state] = automata.isAccepting(0, state);
            for (int street = 0; street < 6; street++) {
                next[state][street] = automata.transition(0, state, street);
            }
        }
        for (int length = 0; length <= LONGEST; length++) {
            Due.same("37: words of length " + length + " of " + text,
                    automata.wordCount(0, length), count("", 0, length, next, accepting, pattern, text));
        }
    }

    private static int count(String word, int state, int rest, int[][] next, boolean[] accepting, Pattern pattern,
            String text) {
        if (rest == 0) {
            boolean due = pattern.matcher(word).matches();
            Due.same("30: \"" + word + "\" of " + text, accepting[state], due);
            return due ? 1 : 0;
        }
        int sum = 0;
        for (int street = 0; street < 6; street++) {
            sum += count(word + (char) ('a' + street), next[state][street], rest - 1, next, accepting, pattern, text);
        }
        return sum;
    }

    private static int pick(int below) {
        seed = seed * 6364136223846793005L + 1442695040888963407L;
        return (int) ((seed >>> 33) % below);
    }

    private static void choice(StringBuilder text, int depth) {
        for (int branches = pick(3); branches >= 0; branches--) {
            for (int pieces = pick(4); pieces > 0; pieces--) {
                if (pick(3) == 0 && depth < 3) {
                    text.append('(');
                    choice(text, depth + 1);
                    text.append(')');
                } else {
                    text.append(pick(6) == 0 ? '.' : (char) ('a' + pick(pick(3) == 0 ? 6 : 2)));
                }
                while (pick(4) == 0) {
                    text.append("*+?".charAt(pick(3)));
                }
            }
            text.append(branches > 0 ? "|" : "");
        }
    }
}
