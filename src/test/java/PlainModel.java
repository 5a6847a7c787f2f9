import java.math.BigInteger;
import java.nio.ByteBuffer;
import java.nio.charset.StandardCharsets;
import java.util.ArrayDeque;
import java.util.ArrayList;
import java.util.Arrays;
import java.util.Deque;
import java.util.HashSet;
import java.util.List;
import java.util.Map;
import java.util.NoSuchElementException;
import java.util.Set;
import java.util.TreeMap;
import java.util.function.BiPredicate;

/** The whole class, written once more from the document in the most plain way: every change copies the world. */
final class PlainModel {
    /** Immutable but for its arrays, which are copied with it. */
    private static final class World {
        PlainPattern[] patterns = new PlainPattern[2];
        boolean[][] open = new boolean[2][6];
        boolean night;
        List<int[]> walkers = new ArrayList<>();
        int total;

        World copy() {
            World copy = new World();
            copy.patterns = patterns.clone();
            copy.open = new boolean[][] {open[0].clone(), open[1].clone()};
            copy.night = night;
            copy.total = total;
            for (int[] walker : walkers) {
                copy.walkers.add(walker.clone());
            }
            return copy;
        }

        boolean passable(int street) {
            return open[night ? 1 : 0][street];
        }
    }

    private World now = new World();
    private World snapshot;
    private final Deque<World> past = new ArrayDeque<>();
    private String input = "";
    private String report = "";
    private int errorKind = 0;
    private int errorOffset = -1;

    PlainModel() {
        now.patterns[0] = new PlainPattern("a(b|c)*d");
        now.patterns[1] = new PlainPattern("(ab|ac)*d?");
        Arrays.fill(now.open[0], true);
        Arrays.fill(now.open[1], true);
    }

    private static void need(boolean exists) {
        if (!exists) {
            throw new IndexOutOfBoundsException();
        }
    }

    private PlainPattern slot(int slot) {
        need(slot == 0 || slot == 1);
        return now.patterns[slot];
    }

    private PlainPattern slotAndState(int slot, int state) {
        PlainPattern pattern = slot(slot);
        need(state >= 0 && state < pattern.states.size());
        return pattern;
    }

    private PlainPattern slotAndPosition(int slot, int position) {
        PlainPattern pattern = slot(slot);
        need(position >= 1 && position <= pattern.streets.size());
        return pattern;
    }

    private int[] walker(int walker) {
        need(walker >= 0 && walker < now.walkers.size());
        return now.walkers.get(walker);
    }

    private static void needStreet(int street) {
        need(street >= 0 && street < 6);
    }

    private static void needLength(int length) {
        if (length < 0 || length > 20) {
            throw new IllegalArgumentException();
        }
    }

    private void change() {
        past.push(now.copy());
        if (past.size() > 8) {
            past.removeLast();
        }
    }

    private void put(int slot, PlainPattern pattern) {
        now.patterns[slot] = pattern;
        for (int[] walker : now.walkers) {
            if (walker[0] == slot) {
                walker[1] = 0;
                walker[2] = 0;
            }
        }
    }

    private boolean letters() {
        return input.chars().allMatch(sign -> sign >= 'a' && sign <= 'f');
    }

    private int stateAfter(PlainPattern pattern, String word) {
        int state = 0;
        for (char sign : word.toCharArray()) {
            state = pattern.next.get(state)[sign - 'a'];
        }
        return state;
    }

    /** Words in the order of length and alphabet until one leads to a pair that fits; null if none does. */
    private String search(PlainPattern left, int leftStart, PlainPattern right, int rightStart, boolean gates,
            BiPredicate<Integer, Integer> fits, Set<Integer> seen) {
        Map<String, int[]> level = new TreeMap<>();
        level.put("", new int[] {leftStart, rightStart});
        while (!level.isEmpty()) {
            Map<String, int[]> longer = new TreeMap<>();
            for (Map.Entry<String, int[]> entry : level.entrySet()) {
                int[] pair = entry.getValue();
                if (!seen.add(pair[0] * 1000 + pair[1])) {
                    continue;
                }
                if (fits.test(pair[0], pair[1])) {
                    return entry.getKey();
                }
                for (int street = 0; street < 6; street++) {
                    if (!gates || now.passable(street)) {
                        longer.put(entry.getKey() + (char) ('a' + street),
                                new int[] {left.next.get(pair[0])[street], right.next.get(pair[1])[street]});
                    }
                }
            }
            level = longer;
        }
        return null;
    }

    private String home(int walker) {
        int[] who = walker(walker);
        PlainPattern pattern = now.patterns[who[0]];
        return search(pattern, who[1], pattern, who[1], true, (left, right) -> pattern.accepts(left), new HashSet<>());
    }

    private String difference() {
        PlainPattern left = now.patterns[0];
        PlainPattern right = now.patterns[1];
        return search(left, 0, right, 0, false, (l, r) -> left.accepts(l) != right.accepts(r), new HashSet<>());
    }

    private String shared() {
        PlainPattern left = now.patterns[0];
        PlainPattern right = now.patterns[1];
        return search(left, 0, right, 0, false, (l, r) -> left.accepts(l) && right.accepts(r), new HashSet<>());
    }

    private static int length(String word) {
        return word == null ? -1 : word.length();
    }

    private int write(String word) {
        report = word == null ? report : word;
        return length(word);
    }

    int append(int a, int b, int c, int d, int e) {
        if (input.length() > 180) {
            return -1;
        }
        ByteBuffer bytes = ByteBuffer.allocate(20);
        bytes.putInt(a).putInt(b).putInt(c).putInt(d).putInt(e);
        input += new String(bytes.array(), StandardCharsets.ISO_8859_1);
        return input.length();
    }

    int truncateInput(int length) {
        if (length < 0 || length > input.length()) {
            throw new IllegalArgumentException();
        }
        input = input.substring(0, length);
        return length;
    }

    int inputLength() {
        return input.length();
    }

    int compile(int slot) {
        slot(slot);
        PlainPattern pattern = new PlainPattern(input);
        input = "";
        errorKind = pattern.errorKind;
        errorOffset = pattern.errorOffset;
        if (errorKind != 0) {
            return -1;
        }
        change();
        put(slot, pattern);
        return pattern.streets.size();
    }

    int copyPattern(int from) {
        PlainPattern pattern = slot(from);
        change();
        put(1 - from, pattern);
        return pattern.states.size();
    }

    int addWalker(int slot) {
        slot(slot);
        if (now.walkers.size() == 6) {
            throw new IllegalStateException();
        }
        change();
        now.walkers.add(new int[] {slot, 0, 0});
        return now.walkers.size() - 1;
    }

    int removeWalker(int walker) {
        int steps = walker(walker)[2];
        change();
        now.walkers.remove(walker);
        return steps;
    }

    private void move(int[] who, int street) {
        who[1] = now.patterns[who[0]].next.get(who[1])[street];
        who[2]++;
        now.total++;
    }

    int step(int walker, int street) {
        int[] who = walker(walker);
        needStreet(street);
        if (!now.passable(street)) {
            throw new IllegalStateException();
        }
        change();
        move(who, street);
        return who[1];
    }

    int walkWord(int walker) {
        int[] who = walker(walker);
        change();
        int made = 0;
        for (char sign : input.toCharArray()) {
            if (sign < 'a' || sign > 'f' || !now.passable(sign - 'a')) {
                break;
            }
            move(who, sign - 'a');
            made++;
        }
        input = "";
        return made;
    }

    int restartWalker(int walker) {
        int[] who = walker(walker);
        change();
        int state = who[1];
        who[1] = 0;
        who[2] = 0;
        return state;
    }

    boolean setGate(int street, boolean night, boolean open) {
        needStreet(street);
        change();
        boolean before = now.open[night ? 1 : 0][street];
        now.open[night ? 1 : 0][street] = open;
        return before;
    }

    int setNight(boolean night) {
        change();
        now.night = night;
        int count = 0;
        for (int street = 0; street < 6; street++) {
            count += now.passable(street) ? 1 : 0;
        }
        return count;
    }

    int undo() {
        if (past.isEmpty()) {
            return -1;
        }
        now = past.pop();
        return past.size();
    }

    int undoCount() {
        return past.size();
    }

    int saveSnapshot() {
        snapshot = now.copy();
        return now.walkers.size();
    }

    int restoreSnapshot() {
        if (snapshot == null) {
            throw new NoSuchElementException();
        }
        now = snapshot.copy();
        past.clear();
        return now.walkers.size();
    }

    int patternErrorKind() {
        return errorKind;
    }

    int patternErrorOffset() {
        return errorOffset;
    }

    int positionCount(int slot) {
        return slot(slot).streets.size();
    }

    int streetAt(int slot, int position) {
        return slotAndPosition(slot, position).streets.get(position - 1);
    }

    boolean acceptsEmptyWord(int slot) {
        return PlainPattern.empty(slot(slot).tree);
    }

    int firstPositions(int slot) {
        return PlainPattern.sum(PlainPattern.ends(slot(slot).tree, true));
    }

    int lastPositions(int slot) {
        return PlainPattern.sum(PlainPattern.ends(slot(slot).tree, false));
    }

    int followPositions(int slot, int position) {
        return PlainPattern.sum(slotAndPosition(slot, position).followOf(position));
    }

    int loopCount(int slot) {
        return slot(slot).loops;
    }

    boolean isDeterministicAt(int slot, int position) {
        PlainPattern pattern = slotAndPosition(slot, position);
        for (int left : pattern.followOf(position)) {
            for (int right : pattern.followOf(position)) {
                for (int street = 0; street < 6; street++) {
                    if (left < right && pattern.fits(left, street) && pattern.fits(right, street)) {
                        return false;
                    }
                }
            }
        }
        return true;
    }

    int stateCount(int slot) {
        return slot(slot).states.size();
    }

    int transition(int slot, int state, int street) {
        PlainPattern pattern = slotAndState(slot, state);
        needStreet(street);
        return pattern.next.get(state)[street];
    }

    boolean isAccepting(int slot, int state) {
        return slotAndState(slot, state).accepts(state);
    }

    int statePositions(int slot, int state) {
        return PlainPattern.sum(slotAndState(slot, state).states.get(state));
    }

    int deadState(int slot) {
        return slot(slot).states.indexOf(Set.<Integer>of());
    }

    int distanceToAccepting(int slot, int state) {
        PlainPattern pattern = slotAndState(slot, state);
        return length(search(pattern, state, pattern, state, false, (left, right) -> pattern.accepts(left),
                new HashSet<>()));
    }

    boolean areEquivalentStates(int slot, int state, int other) {
        slotAndState(slot, state);
        return !slotAndState(slot, other).differing()[state][other];
    }

    int minimalStateCount(int slot) {
        return slot(slot).classCount();
    }

    boolean acceptsInput(int slot) {
        PlainPattern pattern = slot(slot);
        return letters() && pattern.accepts(stateAfter(pattern, input));
    }

    long wordCount(int slot, int length) {
        PlainPattern pattern = slot(slot);
        needLength(length);
        return pattern.count(0, length).longValueExact();
    }

    long wordCountWithPrefix(int slot, int length) {
        PlainPattern pattern = slot(slot);
        needLength(length);
        if (!letters() || input.length() > length) {
            return 0;
        }
        return pattern.count(stateAfter(pattern, input), length - input.length()).longValueExact();
    }

    int shortestLength(int slot) {
        slot(slot);
        return distanceToAccepting(slot, 0);
    }

    boolean isFinite(int slot) {
        return slot(slot).longest() != -1;
    }

    int longestLength(int slot) {
        return slot(slot).longest();
    }

    boolean isSubset(int inner) {
        PlainPattern left = slot(inner);
        PlainPattern right = slot(1 - inner);
        return search(left, 0, right, 0, false, (l, r) -> left.accepts(l) && !right.accepts(r), new HashSet<>()) == null;
    }

    int differenceLength() {
        return length(difference());
    }

    int sharedLength() {
        return length(shared());
    }

    int reachablePairs() {
        Set<Integer> seen = new HashSet<>();
        search(now.patterns[0], 0, now.patterns[1], 0, false, (left, right) -> false, seen);
        return seen.size();
    }

    boolean isPassable(int street) {
        needStreet(street);
        return now.passable(street);
    }

    boolean isNight() {
        return now.night;
    }

    int walkerCount() {
        return now.walkers.size();
    }

    int walkerSlot(int walker) {
        return walker(walker)[0];
    }

    int walkerState(int walker) {
        return walker(walker)[1];
    }

    int walkerSteps(int walker) {
        return walker(walker)[2];
    }

    int stepsHome(int walker) {
        return length(home(walker));
    }

    int streetHome(int walker) {
        String way = home(walker);
        return way == null || way.isEmpty() ? -1 : way.charAt(0) - 'a';
    }

    int walkersInState(int slot, int state) {
        slotAndState(slot, state);
        return (int) now.walkers.stream().filter(who -> who[0] == slot && who[1] == state).count();
    }

    int meetingSteps(int walker, int other) {
        int[] one = walker(walker);
        int[] two = walker(other);
        PlainPattern left = now.patterns[one[0]];
        PlainPattern right = now.patterns[two[0]];
        return length(search(left, one[1], right, two[1], true, (l, r) -> left.accepts(l) && right.accepts(r),
                new HashSet<>()));
    }

    int totalSteps() {
        return now.total;
    }

    float homeShare() {
        long home = now.walkers.stream().filter(who -> now.patterns[who[0]].accepts(who[1])).count();
        return now.walkers.isEmpty() ? 0.0f : (float) home / (float) now.walkers.size();
    }

    double meanSetSize(int slot) {
        PlainPattern pattern = slot(slot);
        int sum = pattern.states.stream().mapToInt(set -> Integer.bitCount(PlainPattern.sum(set))).sum();
        return (double) sum / (double) pattern.states.size();
    }

    int writeWord(int slot, int length, long number) {
        PlainPattern pattern = slot(slot);
        needLength(length);
        return write(pattern.word(length, BigInteger.valueOf(number)));
    }

    int writeDifference() {
        return write(difference());
    }

    int writeSharedWord() {
        return write(shared());
    }

    int reportByte(int index) {
        return index >= 0 && index < report.length() ? report.charAt(index) : -1;
    }
}
