import java.util.NoSuchElementException;

/** Promises 1 to 4: a new object and the input buffer. */
public final class InputTest {
    private static final int NONE = StreetAutomata.NONE;

    public static void main(String[] args) {
        newObject();
        append();
        truncateInput();
        inputLength();
        Due.end();
    }

    private static void newObject() {
        StreetAutomata fresh = new StreetAutomata();
        Due.text("1: patterns", Due.patterns(fresh), Due.patterns(Due.with("a(b|c)*d", "(ab|ac)*d?")));
        Due.same("1: walkers", fresh.walkerCount(), 0);
        Due.same("1: input", fresh.inputLength(), 0);
        Due.same("1: report", fresh.reportByte(0), NONE);
        Due.same("1: undoCount", fresh.undoCount(), 0);
        Due.same("1: undo", fresh.undo(), NONE);
        Due.refuses("1: snapshot", NoSuchElementException.class, () -> fresh.restoreSnapshot());
        Due.same("1: error", fresh.patternErrorKind(), 0);
        Due.same("1: offset", fresh.patternErrorOffset(), NONE);
        Due.same("1: steps", fresh.totalSteps(), 0);
        Due.same("1: night", fresh.isNight(), false);
        Due.same("1: gates of the day", fresh.setNight(false), 6);
        Due.same("1: gates of the night", fresh.setNight(true), 6);
        StreetAutomata other = new StreetAutomata();
        Due.same("1: objects share nothing", other.undoCount() == 0 && !other.isNight(), true);
    }

    private static void append() {
        StreetAutomata automata = new StreetAutomata();
        // "abcd", "ef.(", ")|*+", "?abc", "def" and the byte 0xff: the order of the bytes shows in the offset
        Due.same("2: append", automata.append(0x61626364, 0x65662e28, 0x297c2a2b, 0x3f616263, 0x646566ff), 20);
        Due.same("2: order of the bytes", automata.compile(0), NONE);
        Due.same("2: ')' after '(' is the first that is allowed, '*' after '|' the first that is not",
                automata.patternErrorOffset(), 10);
        automata.append(0x61626364, 0x65666162, 0x63646566, 0x61626364, 0x656661ff);
        automata.truncateInput(19);
        Due.same("2: all five parameters", automata.compile(0), 19);
        for (int position = 1; position <= 19; position++) {
            Due.same("2: byte " + position, automata.streetAt(0, position), (position - 1) % 6);
        }
        for (int times = 1; times <= 10; times++) {
            Due.same("2: append " + times, automata.append(0x61616161, 0, 0, 0, 0), 20 * times);
        }
        Due.same("2: full", automata.append(0, 0, 0, 0, 0), NONE);
        Due.same("2: full, length", automata.inputLength(), 200);
        automata.truncateInput(181);
        Due.same("2: 201 would be too many", automata.append(0, 0, 0, 0, 0), NONE);
        Due.same("2: nothing appended", automata.inputLength(), 181);
        automata.truncateInput(180);
        Due.same("2: 200 fit", automata.append(0, 0, 0, 0, 0), 200);
        StreetAutomata negative = new StreetAutomata();
        negative.append(-1, -1, -1, -1, -1);
        Due.same("2: bytes of a negative number", negative.compile(0), NONE);
        Due.same("2: byte 255 is not allowed", negative.patternErrorKind() * 100 + negative.patternErrorOffset(), 100);
        StreetAutomata high = new StreetAutomata();
        high.append(0xe1626364, 0, 0, 0, 0);
        high.truncateInput(1);
        Due.same("2: 0xe1 is not 'a'", high.acceptsInput(0) ? 1 : high.compile(0), NONE);
    }

    private static void truncateInput() {
        StreetAutomata automata = new StreetAutomata();
        Due.same("3: empty", automata.truncateInput(0), 0);
        Due.refuses("3: longer than empty", IllegalArgumentException.class, () -> automata.truncateInput(1));
        Due.type(automata, "abd");
        Due.refuses("3: longer", IllegalArgumentException.class, () -> automata.truncateInput(4));
        Due.refuses("3: negative", IllegalArgumentException.class, () -> automata.truncateInput(-1));
        Due.refuses("3: least", IllegalArgumentException.class, () -> automata.truncateInput(Integer.MIN_VALUE));
        Due.refuses("3: greatest", IllegalArgumentException.class, () -> automata.truncateInput(Integer.MAX_VALUE));
        Due.same("3: refused, length", automata.inputLength(), 3);
        Due.same("3: refused, word", automata.acceptsInput(0), true);
        Due.same("3: same length", automata.truncateInput(3), 3);
        Due.same("3: shorter", automata.truncateInput(2), 2);
        Due.same("3: the begin stays", automata.acceptsInput(1), true);
        Due.same("3: is no change", automata.undoCount(), 0);
    }

    private static void inputLength() {
        StreetAutomata automata = new StreetAutomata();
        Due.same("4: empty", automata.inputLength(), 0);
        automata.append(0, 0, 0, 0, 0);
        Due.same("4: one append", automata.inputLength(), 20);
        automata.truncateInput(7);
        Due.same("4: shortened", automata.inputLength(), 7);
        automata.append(0, 0, 0, 0, 0);
        Due.same("4: appended behind the rest", automata.inputLength(), 27);
        automata.acceptsInput(0);
        automata.wordCountWithPrefix(0, 3);
        Due.same("4: asking keeps it", automata.inputLength(), 27);
    }
}
