import java.util.Arrays;
import java.util.NoSuchElementException;

/**
 * A regular-expression toolkit over a small alphabet of streets: it parses patterns, builds the
 * position automaton (Glushkov) and the deterministic automaton (subset construction), counts and
 * lists words, compares two patterns, and moves walkers through the automata along streets that
 * can be closed by day or by night.
 */
public final class StreetAutomata {
    public static final int NONE = -1;

    private static final int SLOTS = 2;
    private static final int STREETS = 6;
    private static final int ALL_STREETS = (1 << STREETS) - 1;
    private static final int BYTES_PER_APPEND = 20;
    private static final int INPUT_LIMIT = 200;
    private static final int POSITION_LIMIT = 24;
    private static final int OPEN_LIMIT = 20;
    private static final int STATE_LIMIT = 60;
    private static final int PAIR_LIMIT = STATE_LIMIT * STATE_LIMIT;
    private static final int WALKER_LIMIT = 6;
    private static final int UNDO_LIMIT = 8;
    private static final int WORD_LIMIT = 20;

    private static final int NO_ERROR = 0;
    private static final int BYTE_NOT_ALLOWED = 1;
    private static final int TOO_MANY_POSITIONS = 2;
    private static final int TOO_MANY_OPEN = 3;
    private static final int TOO_MANY_STATES = 4;

    private static final int GOAL_BOTH = 0;
    private static final int GOAL_EXACTLY_ONE = 1;
    private static final int GOAL_LEFT_ALONE = 2;
    private static final int GOAL_NEVER = 3;

    private static final String TEXT_OF_SLOT_0 = "a(b|c)*d";
    private static final String TEXT_OF_SLOT_1 = "(ab|ac)*d?";

    private final Input input;
    private final PatternReader reader;
    private final World now;
    private final History history;
    private final World snapshot;
    private boolean snapshotSaved;
    private int errorKind;
    private int errorOffset;
    private final PairSearch search;
    private final WordCounts counts;
    private final StateClasses classes;
    private final int[] report;
    private int reportLength;

    public StreetAutomata() {
        Input text = new Input();
        PatternReader first = new PatternReader();
        text.put(TEXT_OF_SLOT_0);
        first.read(text);
        Pattern zero = new Pattern(first);
        text.put(TEXT_OF_SLOT_1);
        first.read(text);
        Pattern one = new Pattern(first);
        text.shorten(0);
        input = text;
        reader = first;
        now = new World(zero, one);
        history = new History(zero, one);
        snapshot = new World(zero, one);
        errorKind = NO_ERROR;
        errorOffset = NONE;
        search = new PairSearch();
        counts = new WordCounts();
        classes = new StateClasses();
        report = new int[PAIR_LIMIT];
    }

    // ---- input buffer

    public int append(int a, int b, int c, int d, int e) {
        if (input.size() + BYTES_PER_APPEND > INPUT_LIMIT) {
            return NONE;
        }
        input.addFourBytes(a);
        input.addFourBytes(b);
        input.addFourBytes(c);
        input.addFourBytes(d);
        input.addFourBytes(e);
        return input.size();
    }

    public int truncateInput(int length) throws IllegalArgumentException {
        if (length < 0 || length > input.size()) {
            throw new IllegalArgumentException("no such length of the input buffer");
        }
        input.shorten(length);
        return length;
    }

    public int inputLength() {
        return input.size();
    }

    // ---- changes

    public int compile(int slot) throws IndexOutOfBoundsException {
        checkSlot(slot);
        errorKind = reader.read(input);
        errorOffset = errorKind == NO_ERROR ? NONE : reader.errorOffset();
        input.shorten(0);
        if (errorKind != NO_ERROR) {
            return NONE;
        }
        Pattern pattern = new Pattern(reader);
        history.remember(now);
        now.putPattern(slot, pattern);
        return pattern.positions;
    }

    public int copyPattern(int from) throws IndexOutOfBoundsException {
        checkSlot(from);
        Pattern pattern = now.pattern(from);
        history.remember(now);
        now.putPattern(otherSlot(from), pattern);
        return pattern.states;
    }

    public int addWalker(int slot) throws IndexOutOfBoundsException, IllegalStateException {
        checkSlot(slot);
        if (now.walkers >= WALKER_LIMIT) {
            throw new IllegalStateException("there are 6 walkers");
        }
        history.remember(now);
        return now.bringWalker(slot);
    }

    public int removeWalker(int walker) throws IndexOutOfBoundsException {
        checkWalker(walker);
        int steps = now.stepsOf(walker);
        history.remember(now);
        now.dropWalker(walker);
        return steps;
    }

    public int step(int walker, int street) throws IndexOutOfBoundsException, IllegalStateException {
        checkWalker(walker);
        checkStreet(street);
        if (!now.isOpen(street)) {
            throw new IllegalStateException("the street is not passable");
        }
        history.remember(now);
        now.moveWalker(walker, street);
        return now.stateOf(walker);
    }

    public int walkWord(int walker) throws IndexOutOfBoundsException {
        checkWalker(walker);
        history.remember(now);
        int made = 0;
        for (int index = 0; index < input.size(); index++) {
            int street = input.street(index);
            if (!now.isOpen(street)) {
                break;
            }
            now.moveWalker(walker, street);
            made++;
        }
        input.shorten(0);
        return made;
    }

    public int restartWalker(int walker) throws IndexOutOfBoundsException {
        checkWalker(walker);
        int state = now.stateOf(walker);
        history.remember(now);
        now.beginAnew(walker);
        return state;
    }

    public boolean setGate(int street, boolean night, boolean open) throws IndexOutOfBoundsException {
        checkStreet(street);
        history.remember(now);
        return now.putGate(street, night, open);
    }

    public int setNight(boolean night) {
        history.remember(now);
        now.night = night;
        return Integer.bitCount(now.openStreets());
    }

    // ---- undo and the snapshot

    public int undo() {
        return history.takeBack(now) ? history.size() : NONE;
    }

    public int undoCount() {
        return history.size();
    }

    public int saveSnapshot() {
        snapshot.copyFrom(now);
        snapshotSaved = true;
        return now.walkers;
    }

    public int restoreSnapshot() throws NoSuchElementException {
        if (!snapshotSaved) {
            throw new NoSuchElementException("no snapshot was saved");
        }
        now.copyFrom(snapshot);
        history.forgetAll();
        return now.walkers;
    }

    // ---- the pattern error

    public int patternErrorKind() {
        return errorKind;
    }

    public int patternErrorOffset() {
        return errorOffset;
    }

    // ---- the position automaton

    public int positionCount(int slot) throws IndexOutOfBoundsException {
        return checkedPattern(slot).positions;
    }

    public int streetAt(int slot, int position) throws IndexOutOfBoundsException {
        Pattern pattern = checkedPattern(slot);
        checkPosition(pattern, position);
        return pattern.streetOf(position);
    }

    public boolean acceptsEmptyWord(int slot) throws IndexOutOfBoundsException {
        return checkedPattern(slot).empty;
    }

    public int firstPositions(int slot) throws IndexOutOfBoundsException {
        return checkedPattern(slot).first;
    }

    public int lastPositions(int slot) throws IndexOutOfBoundsException {
        return checkedPattern(slot).last;
    }

    public int followPositions(int slot, int position) throws IndexOutOfBoundsException {
        Pattern pattern = checkedPattern(slot);
        checkPosition(pattern, position);
        return pattern.followOf(position);
    }

    public int loopCount(int slot) throws IndexOutOfBoundsException {
        return checkedPattern(slot).loops;
    }

    public boolean isDeterministicAt(int slot, int position) throws IndexOutOfBoundsException {
        Pattern pattern = checkedPattern(slot);
        checkPosition(pattern, position);
        int follow = pattern.followOf(position);
        for (int street = 0; street < STREETS; street++) {
            if (Integer.bitCount(follow & pattern.positionsAlong(street)) > 1) {
                return false;
            }
        }
        return true;
    }

    // ---- the deterministic automaton

    public int stateCount(int slot) throws IndexOutOfBoundsException {
        return checkedPattern(slot).states;
    }

    public int transition(int slot, int state, int street) throws IndexOutOfBoundsException {
        Pattern pattern = checkedPattern(slot);
        checkState(pattern, state);
        checkStreet(street);
        return pattern.after(state, street);
    }

    public boolean isAccepting(int slot, int state) throws IndexOutOfBoundsException {
        Pattern pattern = checkedPattern(slot);
        checkState(pattern, state);
        return pattern.accepts(state);
    }

    public int statePositions(int slot, int state) throws IndexOutOfBoundsException {
        Pattern pattern = checkedPattern(slot);
        checkState(pattern, state);
        return pattern.positionsIn(state);
    }

    public int deadState(int slot) throws IndexOutOfBoundsException {
        return checkedPattern(slot).emptySetState();
    }

    public int distanceToAccepting(int slot, int state) throws IndexOutOfBoundsException {
        Pattern pattern = checkedPattern(slot);
        checkState(pattern, state);
        return search.stepsTo(findAcceptance(pattern, state, ALL_STREETS));
    }

    public boolean areEquivalentStates(int slot, int state, int other) throws IndexOutOfBoundsException {
        Pattern pattern = checkedPattern(slot);
        checkState(pattern, state);
        checkState(pattern, other);
        classes.sort(pattern);
        return classes.classOf(state) == classes.classOf(other);
    }

    public int minimalStateCount(int slot) throws IndexOutOfBoundsException {
        classes.sort(checkedPattern(slot));
        return classes.size();
    }

    // ---- words (whatever the gates are)

    public boolean acceptsInput(int slot) throws IndexOutOfBoundsException {
        Pattern pattern = checkedPattern(slot);
        return pattern.accepts(stateAfterInput(pattern));
    }

    public long wordCount(int slot, int length) throws IndexOutOfBoundsException, IllegalArgumentException {
        Pattern pattern = checkedPattern(slot);
        checkWordLength(length);
        counts.fill(pattern, length);
        return counts.from(0, length);
    }

    public long wordCountWithPrefix(int slot, int length)
            throws IndexOutOfBoundsException, IllegalArgumentException {
        Pattern pattern = checkedPattern(slot);
        checkWordLength(length);
        int rest = length - input.size();
        int state = stateAfterInput(pattern);
        if (rest < 0 || state == NONE) {
            return 0;
        }
        counts.fill(pattern, rest);
        return counts.from(state, rest);
    }

    public int shortestLength(int slot) throws IndexOutOfBoundsException {
        return search.stepsTo(findAcceptance(checkedPattern(slot), 0, ALL_STREETS));
    }

    public boolean isFinite(int slot) throws IndexOutOfBoundsException {
        return checkedPattern(slot).longestWord() != NONE;
    }

    public int longestLength(int slot) throws IndexOutOfBoundsException {
        return checkedPattern(slot).longestWord();
    }

    // ---- comparison of the two patterns

    public boolean isSubset(int inner) throws IndexOutOfBoundsException {
        Pattern left = checkedPattern(inner);
        Pattern right = now.pattern(otherSlot(inner));
        return search.find(left, right, 0, ALL_STREETS, GOAL_LEFT_ALONE) == NONE;
    }

    public int differenceLength() {
        return search.stepsTo(compareBoth(GOAL_EXACTLY_ONE));
    }

    public int sharedLength() {
        return search.stepsTo(compareBoth(GOAL_BOTH));
    }

    public int reachablePairs() {
        compareBoth(GOAL_NEVER);
        return search.size();
    }

    // ---- gates and walkers

    public boolean isPassable(int street) throws IndexOutOfBoundsException {
        checkStreet(street);
        return now.isOpen(street);
    }

    public boolean isNight() {
        return now.night;
    }

    public int walkerCount() {
        return now.walkers;
    }

    public int walkerSlot(int walker) throws IndexOutOfBoundsException {
        checkWalker(walker);
        return now.slotOf(walker);
    }

    public int walkerState(int walker) throws IndexOutOfBoundsException {
        checkWalker(walker);
        return now.stateOf(walker);
    }

    public int walkerSteps(int walker) throws IndexOutOfBoundsException {
        checkWalker(walker);
        return now.stepsOf(walker);
    }

    public int stepsHome(int walker) throws IndexOutOfBoundsException {
        checkWalker(walker);
        return search.stepsTo(findHome(walker));
    }

    public int streetHome(int walker) throws IndexOutOfBoundsException {
        checkWalker(walker);
        return search.firstStreetTo(findHome(walker));
    }

    public int walkersInState(int slot, int state) throws IndexOutOfBoundsException {
        checkState(checkedPattern(slot), state);
        int found = 0;
        for (int walker = 0; walker < now.walkers; walker++) {
            if (now.slotOf(walker) == slot && now.stateOf(walker) == state) {
                found++;
            }
        }
        return found;
    }

    public int meetingSteps(int walker, int other) throws IndexOutOfBoundsException {
        checkWalker(walker);
        checkWalker(other);
        int start = pairOf(now.stateOf(walker), now.stateOf(other));
        return search.stepsTo(search.find(
                now.patternOfWalker(walker), now.patternOfWalker(other), start, now.openStreets(), GOAL_BOTH));
    }

    public int totalSteps() {
        return now.allSteps;
    }

    public float homeShare() {
        if (now.walkers == 0) {
            return 0.0f;
        }
        int home = 0;
        for (int walker = 0; walker < now.walkers; walker++) {
            if (now.patternOfWalker(walker).accepts(now.stateOf(walker))) {
                home++;
            }
        }
        return (float) home / (float) now.walkers;
    }

    public double meanSetSize(int slot) throws IndexOutOfBoundsException {
        Pattern pattern = checkedPattern(slot);
        int sum = 0;
        for (int state = 0; state < pattern.states; state++) {
            sum += Integer.bitCount(pattern.positionsIn(state));
        }
        return pattern.states == 0 ? 0.0 : (double) sum / (double) pattern.states;
    }

    // ---- report

    public int writeWord(int slot, int length, long number)
            throws IndexOutOfBoundsException, IllegalArgumentException {
        Pattern pattern = checkedPattern(slot);
        checkWordLength(length);
        counts.fill(pattern, length);
        if (number < 0 || number >= counts.from(0, length)) {
            return NONE;
        }
        long ahead = number;
        int state = 0;
        for (int index = 0; index < length; index++) {
            int rest = length - index - 1;
            int street = counts.streetToWord(pattern, state, rest, ahead);
            ahead -= counts.wordsBefore(pattern, state, rest, street);
            putReportByte(index, street);
            state = pattern.after(state, street);
        }
        reportLength = length;
        return length;
    }

    public int writeDifference() {
        return writeFound(compareBoth(GOAL_EXACTLY_ONE));
    }

    public int writeSharedWord() {
        return writeFound(compareBoth(GOAL_BOTH));
    }

    public int reportByte(int index) {
        if (!isIndex(index, reportLength) || index >= report.length) {
            return NONE;
        }
        return report[index];
    }

    // ---- helpers of the calls

    private static boolean isIndex(int index, int length) {
        return index >= 0 && index < length;
    }

    private static int otherSlot(int slot) {
        return 1 - slot;
    }

    private static int pairOf(int left, int right) {
        return left * STATE_LIMIT + right;
    }

    private static void checkSlot(int slot) {
        if (!isIndex(slot, SLOTS)) {
            throw new IndexOutOfBoundsException("no such slot");
        }
    }

    private static void checkStreet(int street) {
        if (!isIndex(street, STREETS)) {
            throw new IndexOutOfBoundsException("no such street");
        }
    }

    private static void checkPosition(Pattern pattern, int position) {
        if (position < 1 || position > pattern.positions) {
            throw new IndexOutOfBoundsException("no such position");
        }
    }

    private static void checkState(Pattern pattern, int state) {
        if (!isIndex(state, pattern.states)) {
            throw new IndexOutOfBoundsException("no such state");
        }
    }

    private static void checkWordLength(int length) {
        if (length < 0 || length > WORD_LIMIT) {
            throw new IllegalArgumentException("no such length of a word");
        }
    }

    private void checkWalker(int walker) {
        if (!isIndex(walker, now.walkers)) {
            throw new IndexOutOfBoundsException("no such walker");
        }
    }

    private Pattern checkedPattern(int slot) {
        checkSlot(slot);
        return now.pattern(slot);
    }

    private int stateAfterInput(Pattern pattern) {
        int state = 0;
        for (int index = 0; index < input.size(); index++) {
            state = pattern.after(state, input.street(index));
        }
        return state;
    }

    private int findAcceptance(Pattern pattern, int state, int open) {
        return search.find(pattern, pattern, pairOf(state, state), open, GOAL_BOTH);
    }

    private int findHome(int walker) {
        return findAcceptance(now.patternOfWalker(walker), now.stateOf(walker), now.openStreets());
    }

    private int compareBoth(int goal) {
        return search.find(now.pattern(0), now.pattern(1), 0, ALL_STREETS, goal);
    }

    private int writeFound(int found) {
        if (found == NONE) {
            return NONE;
        }
        reportLength = search.stepsTo(found);
        int step = found;
        for (int index = reportLength - 1; index >= 0; index--) {
            putReportByte(index, search.streetInto(step));
            step = search.before(step);
        }
        return reportLength;
    }

    private void putReportByte(int index, int street) {
        if (isIndex(index, report.length)) {
            report[index] = 'a' + street;
        }
    }

    /** The bytes that wait to be compiled, walked or asked about. */
    private static final class Input {
        private final int[] bytes = new int[INPUT_LIMIT];
        private int length;

        int size() {
            return length;
        }

        void put(String text) {
            length = 0;
            for (int index = 0; index < text.length(); index++) {
                addByte(text.charAt(index));
            }
        }

        void addFourBytes(int four) {
            addByte(four >>> 24);
            addByte(four >>> 16 & 255);
            addByte(four >>> 8 & 255);
            addByte(four & 255);
        }

        void shorten(int newLength) {
            length = newLength;
        }

        int value(int index) {
            return isIndex(index, length) && index < bytes.length ? bytes[index] : NONE;
        }

        /** The street that a byte names, or NONE if it is no letter of a street. */
        int street(int index) {
            int value = value(index);
            return value >= 'a' && value < 'a' + STREETS ? value - 'a' : NONE;
        }

        private void addByte(int value) {
            if (isIndex(length, bytes.length)) {
                bytes[length] = value;
                length++;
            }
        }
    }

    /** A part of a pattern: whether it accepts the empty word, and where its words begin and end. */
    private static final class Part {
        boolean empty;
        int first;
        int last;

        void set(boolean newEmpty, int newFirst, int newLast) {
            empty = newEmpty;
            first = newFirst;
            last = newLast;
        }
    }

    /** What has been read between an open parenthesis (or the begin of the text) and the present byte. */
    private static final class Level {
        final Level outer;
        Level inner;
        final Part choice = new Part();
        final Part branch = new Part();
        /** The latest piece; it stays out of the branch as long as operators may still come to it. */
        final Part piece = new Part();
        boolean hasPiece;

        Level(Level outer) {
            this.outer = outer;
        }

        Level makeInner() {
            Level made = new Level(this);
            inner = made;
            return made;
        }

        void begin() {
            choice.set(false, 0, 0);
            beginBranch();
        }

        void beginBranch() {
            branch.set(true, 0, 0);
            hasPiece = false;
        }

        void beginPiece(boolean empty, int first, int last) {
            piece.set(empty, first, last);
            hasPiece = true;
        }
    }

    /** Reads a pattern and builds both of its automata, in rows that the next pattern uses again. */
    private static final class PatternReader {
        /** The set of the first state: bit 0 is the start state of the position automaton. */
        private static final int START_SET = 1;

        final int[] streets = new int[POSITION_LIMIT + 1];
        final int[] follow = new int[POSITION_LIMIT + 1];
        final int[] along = new int[STREETS];
        final int[] sets = new int[STATE_LIMIT];
        final int[] after = new int[STATE_LIMIT * STREETS];
        int positions;
        int loops;
        int states;
        private int errorOffset;
        private final Level outermost;
        private Level level;

        PatternReader() {
            outermost = new Level(null);
            Level innermost = outermost;
            for (int open = 0; open < OPEN_LIMIT; open++) {
                innermost = innermost.makeInner();
            }
            level = outermost;
        }

        int errorOffset() {
            return errorOffset;
        }

        /** The whole pattern, once it has been read. */
        Part whole() {
            return outermost.choice;
        }

        /** Returns the kind of the first error, or NO_ERROR. */
        int read(Input text) {
            begin();
            for (int offset = 0; offset < text.size(); offset++) {
                int kind = readByte(text.value(offset));
                if (kind != NO_ERROR) {
                    errorOffset = offset;
                    return kind;
                }
            }
            errorOffset = text.size();
            if (level.outer != null) {
                return BYTE_NOT_ALLOWED;
            }
            endBranch();
            return findStates() ? NO_ERROR : TOO_MANY_STATES;
        }

        private void begin() {
            level = outermost;
            level.begin();
            positions = 0;
            loops = 0;
            states = 0;
            Arrays.fill(follow, 0);
            Arrays.fill(along, 0);
        }

        private int readByte(int value) {
            switch (value) {
                case '(':
                    return openGroup();
                case ')':
                    return closeGroup();
                case '|':
                    endBranch();
                    return NO_ERROR;
                case '*':
                case '+':
                case '?':
                    return readOperator(value);
                case '.':
                    return readPosition(NONE, ALL_STREETS);
                default:
                    return readLetter(value - 'a');
            }
        }

        private int readLetter(int street) {
            return isIndex(street, STREETS) ? readPosition(street, 1 << street) : BYTE_NOT_ALLOWED;
        }

        private int readPosition(int street, int streetSet) {
            int position = positions + 1;
            if (position > POSITION_LIMIT) {
                return TOO_MANY_POSITIONS;
            }
            positions = position;
            streets[position] = street;
            for (int way = 0; way < STREETS; way++) {
                if ((streetSet >> way & 1) != 0) {
                    along[way] |= 1 << position;
                }
            }
            endPiece();
            level.beginPiece(false, 1 << position, 1 << position);
            return NO_ERROR;
        }

        private int openGroup() {
            Level inner = level.inner;
            if (inner == null) {
                return TOO_MANY_OPEN;
            }
            endPiece();
            inner.begin();
            level = inner;
            return NO_ERROR;
        }

        private int closeGroup() {
            Level outer = level.outer;
            if (outer == null) {
                return BYTE_NOT_ALLOWED;
            }
            endBranch();
            Part group = level.choice;
            outer.beginPiece(group.empty, group.first, group.last);
            level = outer;
            return NO_ERROR;
        }

        private int readOperator(int operator) {
            if (!level.hasPiece) {
                return BYTE_NOT_ALLOWED;
            }
            Part piece = level.piece;
            if (operator != '?') {
                loops++;
                addFollow(piece.last, piece.first);
            }
            if (operator != '+') {
                piece.empty = true;
            }
            return NO_ERROR;
        }

        private void endPiece() {
            if (!level.hasPiece) {
                return;
            }
            Part branch = level.branch;
            Part piece = level.piece;
            addFollow(branch.last, piece.first);
            int first = branch.empty ? branch.first | piece.first : branch.first;
            int last = piece.empty ? branch.last | piece.last : piece.last;
            branch.set(branch.empty && piece.empty, first, last);
            level.hasPiece = false;
        }

        private void endBranch() {
            endPiece();
            Part choice = level.choice;
            Part branch = level.branch;
            choice.set(choice.empty || branch.empty, choice.first | branch.first, choice.last | branch.last);
            level.beginBranch();
        }

        private void addFollow(int before, int next) {
            for (int position = 1; position <= POSITION_LIMIT; position++) {
                if ((before >> position & 1) != 0) {
                    follow[position] |= next;
                }
            }
        }

        private boolean findStates() {
            stateOfSet(START_SET);
            for (int state = 0; state < STATE_LIMIT && state < states; state++) {
                int next = positionsAfter(sets[state]);
                for (int street = 0; street < STREETS; street++) {
                    int target = stateOfSet(next & along[street]);
                    if (target == NONE) {
                        return false;
                    }
                    after[state * STREETS + street] = target;
                }
            }
            return true;
        }

        private int positionsAfter(int set) {
            if (set == START_SET) {
                return whole().first;
            }
            int next = 0;
            for (int position = 1; position <= POSITION_LIMIT; position++) {
                if ((set >> position & 1) != 0) {
                    next |= follow[position];
                }
            }
            return next;
        }

        /** The state of a set, a new one if it was not found before; NONE if there is no room for it. */
        private int stateOfSet(int set) {
            for (int state = 0; state < STATE_LIMIT && state < states; state++) {
                if (sets[state] == set) {
                    return state;
                }
            }
            if (!isIndex(states, STATE_LIMIT)) {
                return NONE;
            }
            sets[states] = set;
            states++;
            return states - 1;
        }
    }

    /** A compiled pattern. It never changes, so worlds share it. */
    private static final class Pattern {
        final int positions;
        final int loops;
        final boolean empty;
        final int first;
        final int last;
        final int states;
        private final int[] streets;
        private final int[] follow;
        private final int[] along;
        private final int[] sets;
        private final int[] after;

        Pattern(PatternReader from) {
            Part whole = from.whole();
            positions = from.positions;
            loops = from.loops;
            empty = whole.empty;
            first = whole.first;
            last = whole.last;
            states = from.states;
            streets = from.streets.clone();
            follow = from.follow.clone();
            along = from.along.clone();
            sets = from.sets.clone();
            after = from.after.clone();
        }

        int streetOf(int position) {
            return isIndex(position, streets.length) ? streets[position] : NONE;
        }

        int followOf(int position) {
            return isIndex(position, follow.length) ? follow[position] : 0;
        }

        /** The positions that a street leads to: its own and the dots. */
        int positionsAlong(int street) {
            return isIndex(street, along.length) ? along[street] : 0;
        }

        /** The next state; NONE if the state or the street is none. */
        int after(int state, int street) {
            if (!isIndex(state, states) || !isIndex(street, STREETS)) {
                return NONE;
            }
            int index = state * STREETS + street;
            return isIndex(index, after.length) ? after[index] : NONE;
        }

        boolean accepts(int state) {
            return state == 0 ? empty : (positionsIn(state) & last) != 0;
        }

        int positionsIn(int state) {
            return state >= 0 && state < states && state < sets.length ? sets[state] & ~PatternReader.START_SET : 0;
        }

        int emptySetState() {
            for (int state = 1; state < states; state++) {
                if (positionsIn(state) == 0) {
                    return state;
                }
            }
            return NONE;
        }

        /**
         * The length of the longest words, or NONE if there are words of any length. From every
         * state but the dead one a last position can be reached; so whoever can walk as many steps
         * as there are states without dying has met a state twice and can do so forever.
         */
        int longestWord() {
            long alive = 1;
            int longest = 0;
            for (int length = 0; length < states; length++) {
                if (anyAccepts(alive)) {
                    longest = length;
                }
                alive = aliveAfter(alive);
            }
            return alive == 0 ? longest : NONE;
        }

        private boolean anyAccepts(long someStates) {
            for (int state = 0; state < states; state++) {
                if ((someStates >> state & 1) != 0 && accepts(state)) {
                    return true;
                }
            }
            return false;
        }

        private long aliveAfter(long someStates) {
            long next = 0;
            for (int state = 0; state < states; state++) {
                if ((someStates >> state & 1) != 0) {
                    next |= aliveAfterState(state);
                }
            }
            return next;
        }

        private long aliveAfterState(int state) {
            long next = 0;
            for (int street = 0; street < STREETS; street++) {
                int target = after(state, street);
                if (positionsIn(target) != 0) {
                    next |= 1L << target;
                }
            }
            return next;
        }
    }

    /** Everything that undo and the snapshot restore. */
    private static final class World {
        boolean night;
        int walkers;
        int allSteps;
        private Pattern zero;
        private Pattern one;
        private int dayGates = ALL_STREETS;
        private int nightGates = ALL_STREETS;
        private final int[] slots = new int[WALKER_LIMIT];
        private final int[] states = new int[WALKER_LIMIT];
        private final int[] steps = new int[WALKER_LIMIT];

        World(Pattern zero, Pattern one) {
            this.zero = zero;
            this.one = one;
        }

        void copyFrom(World other) {
            night = other.night;
            walkers = other.walkers;
            allSteps = other.allSteps;
            zero = other.zero;
            one = other.one;
            dayGates = other.dayGates;
            nightGates = other.nightGates;
            for (int walker = 0; walker < WALKER_LIMIT; walker++) {
                slots[walker] = other.slots[walker];
                states[walker] = other.states[walker];
                steps[walker] = other.steps[walker];
            }
        }

        Pattern pattern(int slot) {
            return slot == 0 ? zero : one;
        }

        Pattern patternOfWalker(int walker) {
            return pattern(slotOf(walker));
        }

        void putPattern(int slot, Pattern pattern) {
            if (slot == 0) {
                zero = pattern;
            } else {
                one = pattern;
            }
            for (int walker = 0; walker < walkers; walker++) {
                if (slotOf(walker) == slot) {
                    beginAnew(walker);
                }
            }
        }

        int openStreets() {
            return night ? nightGates : dayGates;
        }

        /** Whether a street is passable; NONE never is. */
        boolean isOpen(int street) {
            return isIndex(street, STREETS) && (openStreets() >> street & 1) != 0;
        }

        boolean putGate(int street, boolean ofNight, boolean open) {
            int before = ofNight ? nightGates : dayGates;
            int gate = 1 << street;
            int gates = open ? before | gate : before & ~gate;
            if (ofNight) {
                nightGates = gates;
            } else {
                dayGates = gates;
            }
            return (before & gate) != 0;
        }

        int slotOf(int walker) {
            return isIndex(walker, slots.length) ? slots[walker] : NONE;
        }

        int stateOf(int walker) {
            return isIndex(walker, states.length) ? states[walker] : NONE;
        }

        int stepsOf(int walker) {
            return isIndex(walker, steps.length) ? steps[walker] : NONE;
        }

        int bringWalker(int slot) {
            if (!isIndex(walkers, WALKER_LIMIT)) {
                return NONE;
            }
            int walker = walkers;
            slots[walker] = slot;
            walkers++;
            beginAnew(walker);
            return walker;
        }

        void dropWalker(int walker) {
            for (int place = walker; place >= 0 && place + 1 < WALKER_LIMIT; place++) {
                slots[place] = slots[place + 1];
                states[place] = states[place + 1];
                steps[place] = steps[place + 1];
            }
            walkers--;
        }

        void moveWalker(int walker, int street) {
            if (isIndex(walker, WALKER_LIMIT)) {
                states[walker] = patternOfWalker(walker).after(states[walker], street);
                steps[walker]++;
                allSteps++;
            }
        }

        void beginAnew(int walker) {
            if (isIndex(walker, WALKER_LIMIT)) {
                states[walker] = 0;
                steps[walker] = 0;
            }
        }
    }

    /** The worlds before the latest changes, in a ring. */
    private static final class History {
        private final World[] ring = new World[UNDO_LIMIT];
        private int place;
        private int count;

        History(Pattern zero, Pattern one) {
            for (int index = 0; index < UNDO_LIMIT; index++) {
                ring[index] = new World(zero, one);
            }
        }

        int size() {
            return count;
        }

        void forgetAll() {
            count = 0;
        }

        void remember(World world) {
            World room = isIndex(place, UNDO_LIMIT) ? ring[place] : null;
            if (room == null) {
                return;
            }
            room.copyFrom(world);
            place = (place + 1) % UNDO_LIMIT;
            count = Math.min(count + 1, UNDO_LIMIT);
        }

        boolean takeBack(World world) {
            int latest = (place + UNDO_LIMIT - 1) % UNDO_LIMIT;
            World room = isIndex(latest, UNDO_LIMIT) ? ring[latest] : null;
            if (count == 0 || room == null) {
                return false;
            }
            world.copyFrom(room);
            place = latest;
            count--;
            return true;
        }
    }

    /**
     * Finds pairs of states, one of each of two patterns, that are reached by the same word. It
     * goes by the length of the words and tries the streets in the order of the alphabet, so each
     * pair is found by the first of its shortest words, and pairs are found in the order of these.
     */
    private static final class PairSearch {
        private final boolean[] seen = new boolean[PAIR_LIMIT];
        private final int[] pairs = new int[PAIR_LIMIT];
        private final int[] origins = new int[PAIR_LIMIT];
        private final int[] streets = new int[PAIR_LIMIT];
        private int count;

        /** The number of pairs that the latest search has found. */
        int size() {
            return count;
        }

        /** Returns the place of the first pair that meets the goal, or NONE. */
        int find(Pattern left, Pattern right, int start, int open, int goal) {
            forget();
            add(start, NONE, NONE);
            for (int place = 0; place < PAIR_LIMIT && place < count; place++) {
                int pair = pairs[place];
                int leftState = pair / STATE_LIMIT;
                int rightState = pair % STATE_LIMIT;
                if (meets(goal, left.accepts(leftState), right.accepts(rightState))) {
                    return place;
                }
                for (int street = 0; street < STREETS; street++) {
                    if ((open >> street & 1) != 0) {
                        add(pairOf(left.after(leftState, street), right.after(rightState, street)), place, street);
                    }
                }
            }
            return NONE;
        }

        /** The street that leads to a found pair from the one before it. */
        int streetInto(int place) {
            return isIndex(place, streets.length) ? streets[place] : NONE;
        }

        int before(int place) {
            return isIndex(place, origins.length) ? origins[place] : NONE;
        }

        /** The number of steps from the start to a found pair; NONE for none. */
        int stepsTo(int found) {
            int steps = NONE;
            int place = found;
            for (int back = 0; back < PAIR_LIMIT && place != NONE; back++) {
                steps++;
                place = before(place);
            }
            return steps;
        }

        /** The first street on the way to a found pair; NONE for none, and for the start itself. */
        int firstStreetTo(int found) {
            int street = NONE;
            int place = found;
            for (int back = 0; back < PAIR_LIMIT && before(place) != NONE; back++) {
                street = streetInto(place);
                place = before(place);
            }
            return street;
        }

        private void forget() {
            for (int place = 0; place < PAIR_LIMIT && place < count; place++) {
                if (isIndex(pairs[place], PAIR_LIMIT)) {
                    seen[pairs[place]] = false;
                }
            }
            count = 0;
        }

        private void add(int pair, int origin, int street) {
            if (!isIndex(pair, PAIR_LIMIT) || seen[pair] || !isIndex(count, PAIR_LIMIT)) {
                return;
            }
            seen[pair] = true;
            pairs[count] = pair;
            origins[count] = origin;
            streets[count] = street;
            count++;
        }

        private static boolean meets(int goal, boolean left, boolean right) {
            switch (goal) {
                case GOAL_BOTH:
                    return left && right;
                case GOAL_EXACTLY_ONE:
                    return left != right;
                case GOAL_LEFT_ALONE:
                    return left && !right;
                default:
                    return false;
            }
        }
    }

    /** For each length and each state the number of words of this length that lead home from it. */
    private static final class WordCounts {
        private final long[] counts = new long[(WORD_LIMIT + 1) * STATE_LIMIT];

        void fill(Pattern pattern, int length) {
            for (int state = 0; state < pattern.states; state++) {
                put(state, 0, pattern.accepts(state) ? 1 : 0);
            }
            for (int reached = 1; reached <= length; reached++) {
                for (int state = 0; state < pattern.states; state++) {
                    put(state, reached, wordsBefore(pattern, state, reached - 1, STREETS));
                }
            }
        }

        long from(int state, int length) {
            int index = length * STATE_LIMIT + state;
            return isIndex(index, counts.length) ? counts[index] : 0;
        }

        /** The number of words that take one of the streets before a street and then a rest. */
        long wordsBefore(Pattern pattern, int state, int rest, int street) {
            long sum = 0;
            for (int earlier = 0; earlier < STREETS && earlier < street; earlier++) {
                sum += from(pattern.after(state, earlier), rest);
            }
            return sum;
        }

        /** The street that begins the word with a number among those of a step and a rest. */
        int streetToWord(Pattern pattern, int state, int rest, long number) {
            for (int street = 0; street < STREETS; street++) {
                if (number < wordsBefore(pattern, state, rest, street + 1)) {
                    return street;
                }
            }
            return NONE;
        }

        private void put(int state, int length, long count) {
            int index = length * STATE_LIMIT + state;
            if (isIndex(index, counts.length)) {
                counts[index] = count;
            }
        }
    }

    /** Sorts the states of a pattern into classes of states that accept the same words. */
    private static final class StateClasses {
        private final int[] classes = new int[STATE_LIMIT];
        private final int[] finer = new int[STATE_LIMIT];
        /** For each of the finer classes its first state. */
        private final int[] heads = new int[STATE_LIMIT];
        private int count;

        int size() {
            return count;
        }

        int classOf(int state) {
            return isIndex(state, classes.length) ? classes[state] : NONE;
        }

        void sort(Pattern pattern) {
            Arrays.fill(classes, 0);
            count = 1;
            int before = 0;
            for (int round = 0; round < STATE_LIMIT && count != before; round++) {
                before = count;
                split(pattern);
            }
        }

        private void split(Pattern pattern) {
            count = 0;
            for (int state = 0; state < pattern.states && state < STATE_LIMIT; state++) {
                finer[state] = finerClass(pattern, state);
            }
            System.arraycopy(finer, 0, classes, 0, STATE_LIMIT);
        }

        private int finerClass(Pattern pattern, int state) {
            for (int kind = 0; kind < STATE_LIMIT && kind < count; kind++) {
                if (seemEqual(pattern, state, heads[kind])) {
                    return kind;
                }
            }
            if (!isIndex(count, STATE_LIMIT)) {
                return NONE;
            }
            heads[count] = state;
            count++;
            return count - 1;
        }

        private boolean seemEqual(Pattern pattern, int state, int other) {
            if (classOf(state) != classOf(other) || pattern.accepts(state) != pattern.accepts(other)) {
                return false;
            }
            for (int street = 0; street < STREETS; street++) {
                if (classOf(pattern.after(state, street)) != classOf(pattern.after(other, street))) {
                    return false;
                }
            }
            return true;
        }
    }
}
