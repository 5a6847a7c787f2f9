import java.math.BigInteger;
import java.util.ArrayList;
import java.util.HashMap;
import java.util.HashSet;
import java.util.List;
import java.util.Map;
import java.util.Set;
import java.util.TreeSet;

/** A pattern, written once more from the document by other means: a tree, sets of objects, big numbers. */
final class PlainPattern {
    static final int LETTERS = 6;

    /** kind: 'p' a position, ',' its parts one after another, '|' one of its parts, or an operator. */
    record Node(char kind, int position, List<Node> parts) {
    }

    final int errorKind;
    final int errorOffset;
    final List<Integer> streets = new ArrayList<>();
    int loops;
    Node tree;
    final Map<Integer, Set<Integer>> follow = new HashMap<>();
    final List<Set<Integer>> states = new ArrayList<>();
    final List<int[]> next = new ArrayList<>();

    private static final class Wrong extends RuntimeException {
        private static final long serialVersionUID = 1;
        final int kind;
        final int offset;

        Wrong(int kind, int offset) {
            this.kind = kind;
            this.offset = offset;
        }
    }

    private final String text;
    private int at;

    PlainPattern(String text) {
        this.text = text;
        int kind = 0;
        int offset = -1;
        try {
            tree = readChoice(0);
            if (at < text.length()) {
                throw new Wrong(1, at);
            }
            collectFollow(tree);
            findStates();
        } catch (Wrong wrong) {
            kind = wrong.kind;
            offset = wrong.offset;
        }
        errorKind = kind;
        errorOffset = offset;
    }

    private boolean sees(String signs) {
        return at < text.length() && signs.indexOf(text.charAt(at)) >= 0;
    }

    private Node readChoice(int open) {
        List<Node> branches = new ArrayList<>();
        branches.add(readBranch(open));
        while (sees("|")) {
            at++;
            branches.add(readBranch(open));
        }
        return new Node('|', 0, branches);
    }

    private Node readBranch(int open) {
        List<Node> pieces = new ArrayList<>();
        while (sees("abcdef.(")) {
            Node piece = readAtom(open);
            while (sees("*+?")) {
                loops += sees("*+") ? 1 : 0;
                piece = new Node(text.charAt(at), 0, List.of(piece));
                at++;
            }
            pieces.add(piece);
        }
        return new Node(',', 0, pieces);
    }

    private Node readAtom(int open) {
        if (!sees("(")) {
            if (streets.size() == 24) {
                throw new Wrong(2, at);
            }
            streets.add(sees(".") ? -1 : text.charAt(at) - 'a');
            at++;
            return new Node('p', streets.size(), List.of());
        }
        if (open == 20) {
            throw new Wrong(3, at);
        }
        at++;
        Node inside = readChoice(open + 1);
        if (!sees(")")) {
            throw new Wrong(1, at);
        }
        at++;
        return inside;
    }

    static boolean empty(Node node) {
        return switch (node.kind) {
            case 'p' -> false;
            case ',' -> node.parts.stream().allMatch(PlainPattern::empty);
            case '|' -> node.parts.stream().anyMatch(PlainPattern::empty);
            case '+' -> empty(node.parts.get(0));
            default -> true;
        };
    }

    /** The first positions, or the last ones. */
    static Set<Integer> ends(Node node, boolean first) {
        Set<Integer> found = new TreeSet<>();
        if (node.kind == 'p') {
            found.add(node.position);
        }
        for (int index = 0; index < node.parts.size(); index++) {
            List<Node> between = first ? node.parts.subList(0, index) : node.parts.subList(index + 1, node.parts.size());
            if (node.kind != ',' || between.stream().allMatch(PlainPattern::empty)) {
                found.addAll(ends(node.parts.get(index), first));
            }
        }
        return found;
    }

    private void collectFollow(Node node) {
        for (Node part : node.parts) {
            collectFollow(part);
        }
        if (node.kind == '*' || node.kind == '+') {
            join(node.parts.get(0), node.parts.get(0));
        }
        for (int left = 0; node.kind == ',' && left < node.parts.size(); left++) {
            for (int right = left + 1; right < node.parts.size(); right++) {
                if (node.parts.subList(left + 1, right).stream().allMatch(PlainPattern::empty)) {
                    join(node.parts.get(left), node.parts.get(right));
                }
            }
        }
    }

    private void join(Node left, Node right) {
        for (int position : ends(left, false)) {
            follow.computeIfAbsent(position, p -> new TreeSet<>()).addAll(ends(right, true));
        }
    }

    Set<Integer> followOf(int position) {
        return follow.getOrDefault(position, Set.of());
    }

    boolean fits(int position, int street) {
        return streets.get(position - 1) == -1 || streets.get(position - 1) == street;
    }

    private void findStates() {
        states.add(Set.of(0));
        for (int state = 0; state < states.size(); state++) {
            int[] row = new int[LETTERS];
            for (int street = 0; street < LETTERS; street++) {
                Set<Integer> target = new TreeSet<>();
                for (int position : states.get(state)) {
                    for (int after : position == 0 ? ends(tree, true) : followOf(position)) {
                        if (fits(after, street)) {
                            target.add(after);
                        }
                    }
                }
                if (!states.contains(target)) {
                    states.add(target);
                }
                if (states.size() > 60) {
                    throw new Wrong(4, text.length());
                }
                row[street] = states.indexOf(target);
            }
            next.add(row);
        }
    }

    boolean accepts(int state) {
        if (state == 0) {
            return empty(tree);
        }
        Set<Integer> both = new HashSet<>(states.get(state));
        both.retainAll(ends(tree, false));
        return !both.isEmpty();
    }

    static int sum(Set<Integer> positions) {
        return positions.stream().filter(position -> position > 0).mapToInt(position -> 1 << position).sum();
    }

    /** The number of accepted words of a length from a state. */
    BigInteger count(int state, int length) {
        return counts(length).get(state);
    }

    private List<BigInteger> counts(int length) {
        List<BigInteger> row = new ArrayList<>();
        for (int state = 0; state < states.size(); state++) {
            row.add(accepts(state) ? BigInteger.ONE : BigInteger.ZERO);
        }
        for (int time = 0; time < length; time++) {
            List<BigInteger> longer = new ArrayList<>();
            for (int[] targets : next) {
                BigInteger sum = BigInteger.ZERO;
                for (int target : targets) {
                    sum = sum.add(row.get(target));
                }
                longer.add(sum);
            }
            row = longer;
        }
        return row;
    }

    /** The accepted word with a number, or null. */
    String word(int length, BigInteger number) {
        if (number.signum() < 0 || number.compareTo(count(0, length)) >= 0) {
            return null;
        }
        StringBuilder word = new StringBuilder();
        BigInteger rest = number;
        int state = 0;
        while (word.length() < length) {
            int street = 0;
            int left = length - word.length() - 1;
            while (rest.compareTo(count(next.get(state)[street], left)) >= 0) {
                rest = rest.subtract(count(next.get(state)[street], left));
                street++;
            }
            word.append((char) ('a' + street));
            state = next.get(state)[street];
        }
        return word.toString();
    }

    /** -1 if there are words of any length. */
    int longest() {
        int longest = -1;
        for (int length = 0; length < 2 * states.size(); length++) {
            if (count(0, length).signum() > 0) {
                longest = length;
            }
        }
        return longest >= states.size() ? -1 : longest;
    }

    /** Marks pairs that differ until nothing changes: the table of Myhill and Nerode. */
    boolean[][] differing() {
        int size = states.size();
        boolean[][] differ = new boolean[size][size];
        boolean more = true;
        while (more) {
            more = false;
            for (int left = 0; left < size; left++) {
                for (int right = 0; right < size; right++) {
                    boolean due = accepts(left) != accepts(right);
                    for (int street = 0; street < LETTERS; street++) {
                        due |= differ[next.get(left)[street]][next.get(right)[street]];
                    }
                    more |= due && !differ[left][right];
                    differ[left][right] |= due;
                }
            }
        }
        return differ;
    }

    int classCount() {
        boolean[][] differ = differing();
        int count = 0;
        for (int state = 0; state < states.size(); state++) {
            boolean fresh = true;
            for (int earlier = 0; earlier < state; earlier++) {
                fresh &= differ[earlier][state];
            }
            count += fresh ? 1 : 0;
        }
        return count;
    }

    /** The tree as a pattern of java.util.regex, each part in a group of its own. */
    static String regex(Node node, PlainPattern of) {
        if (node.kind == 'p') {
            int street = of.streets.get(node.position - 1);
            return street == -1 ? "[a-f]" : "" + (char) ('a' + street);
        }
        StringBuilder text = new StringBuilder("(?:");
        for (int index = 0; index < node.parts.size(); index++) {
            text.append(index > 0 && node.kind == '|' ? "|" : "").append(regex(node.parts.get(index), of));
        }
        text.append(')');
        return node.kind == ',' || node.kind == '|' ? text.toString() : text.append(node.kind).toString();
    }
}
