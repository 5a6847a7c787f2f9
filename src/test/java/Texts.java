/** Texts of patterns as by chance, but always the same ones for the same seed. */
final class Texts {
    private static final int DEEPEST = 3;

    private long seed;

    Texts(long seed) {
        this.seed = seed;
    }

    /** A number from 0 to below - 1. */
    int pick(int below) {
        seed = seed * 6364136223846793005L + 1442695040888963407L;
        return (int) ((seed >>> 33) % below);
    }

    /** A text that keeps to the grammar, though it may have too many positions or states. */
    String pattern() {
        StringBuilder text = new StringBuilder();
        addChoice(text, 0);
        return text.toString();
    }

    /** A text about a limit: of the positions, of the open parentheses, of the states or of the bytes. */
    String aboutLimit() {
        int more = pick(5);
        int open = 18 + more;
        return switch (pick(8)) {
            case 0 -> "(a|.b)?".repeat(7 + more) + "c*".repeat(pick(6));
            case 1 -> "a|".repeat(pick(2)) + "(".repeat(open) + "b" + ")*".repeat(open - pick(2));
            case 2 -> "(a|b)*a" + "(a|b)".repeat(2 + more);
            case 3 -> ".*a" + ".?".repeat(2 + more);
            case 4 -> "e" + "*+?".repeat(62 + more);
            case 5 -> "()|".repeat(62 + more);
            case 6 -> "(" + "f".repeat(20 + more) + ")*";
            default -> "ab?c".repeat(7) + ")".repeat(pick(2)) + "d".repeat(more);
        };
    }

    private void addChoice(StringBuilder text, int depth) {
        addBranch(text, depth);
        while (pick(3) == 0) {
            text.append('|');
            addBranch(text, depth);
        }
    }

    private void addBranch(StringBuilder text, int depth) {
        for (int pieces = pick(4); pieces > 0; pieces--) {
            if (pick(3) == 0 && depth < DEEPEST) {
                text.append('(');
                addChoice(text, depth + 1);
                text.append(')');
            } else {
                text.append(pick(6) == 0 ? '.' : (char) ('a' + pick(pick(3) == 0 ? 6 : 2)));
            }
            while (pick(4) == 0) {
                text.append("*+?".charAt(pick(3)));
            }
        }
    }
}
