/** Promises 20 to 27: the position automaton. */
public final class PositionTest {
    private static final int NONE = StreetAutomata.NONE;

    public static void main(String[] args) {
        // text, empty word, first, last, follows of each position, loops, deterministic positions
        check("", true, set(), set(), 0, 0);
        check("()|", true, set(), set(), 0, 0);
        check("a", false, set(1), set(1), 0, set(1), set());
        check("a*", true, set(1), set(1), 1, set(1), set(1));
        check("a+", false, set(1), set(1), 1, set(1), set(1));
        check("a?", true, set(1), set(1), 0, set(1), set());
        check("a?+", true, set(1), set(1), 1, set(1), set(1));
        check("abc", false, set(1), set(3), 0, set(1, 2, 3), set(2), set(3), set());
        check("a?b?c?", true, set(1, 2, 3), set(1, 2, 3), 0, set(1, 2, 3), set(2, 3), set(3), set());
        check("a?bc?", false, set(1, 2), set(2, 3), 0, set(1, 2, 3), set(2), set(3), set());
        check("a|b|", true, set(1, 2), set(1, 2), 0, set(1, 2), set(), set());
        check("(a|b)c", false, set(1, 2), set(3), 0, set(1, 2, 3), set(3), set(3), set());
        check("(a|)b", false, set(1, 2), set(2), 0, set(1, 2), set(2), set());
        check("a()b", false, set(1), set(2), 0, set(1, 2), set(2), set());
        check("(ab)*c", false, set(1, 3), set(3), 1, set(1, 2, 3), set(2), set(1, 3), set());
        check("(a?b?)+", true, set(1, 2), set(1, 2), 1, set(1, 2), set(1, 2), set(1, 2));
        check("(a*b+)*+?", true, set(1, 2), set(2), 4, set(1, 2), set(1, 2), set(1, 2));
        check("a(ab|ac)", false, set(1), set(3, 5), 0, set(2, 3, 4, 5), set(2, 4), set(3), set(), set(5), set());
        check("a(.|b)", false, set(1), set(2, 3), 0, set(2, 3), set(2, 3), set(), set());
        check("a(.|.)", false, set(1), set(2, 3), 0, set(2, 3), set(2, 3), set(), set());
        check("a.", false, set(1), set(2), 0, set(1, 2), set(2), set());
        check("(a|b|c|d|e|f)*", true, set(1, 2, 3, 4, 5, 6), set(1, 2, 3, 4, 5, 6), 1, set(1, 2, 3, 4, 5, 6),
                set(1, 2, 3, 4, 5, 6), set(1, 2, 3, 4, 5, 6), set(1, 2, 3, 4, 5, 6), set(1, 2, 3, 4, 5, 6),
                set(1, 2, 3, 4, 5, 6), set(1, 2, 3, 4, 5, 6));
        streets();
        mostPositions();
        loopsAreCountedInTheText();
        Due.end();
    }

    private static int set(int... positions) {
        int sum = 0;
        for (int position : positions) {
            sum += 1 << position;
        }
        return sum;
    }

    private static void check(String text, boolean empty, int first, int last, int loops, int deterministic,
            int... follows) {
        for (int slot = 0; slot < 2; slot++) {
            StreetAutomata automata = new StreetAutomata();
            Due.compile(automata, slot, text);
            String what = "\"" + text + "\"";
            Due.same("20: " + what, automata.positionCount(slot), follows.length);
            Due.same("22: " + what, automata.acceptsEmptyWord(slot), empty);
            Due.same("23: " + what, automata.firstPositions(slot), first);
            Due.same("24: " + what, automata.lastPositions(slot), last);
            Due.same("26: " + what, automata.loopCount(slot), loops);
            int found = 0;
            for (int position = 1; position <= follows.length; position++) {
                Due.same("25: " + what + " " + position, automata.followPositions(slot, position), follows[position - 1]);
                found += automata.isDeterministicAt(slot, position) ? 1 << position : 0;
            }
            Due.same("27: " + what, found, deterministic);
        }
    }

    private static void streets() {
        StreetAutomata automata = Due.with("(a|b)*c.d|ef.", "f(e)");
        int[] due = {0, 1, 2, NONE, 3, 4, 5, NONE};
        for (int position = 1; position <= 8; position++) {
            Due.same("21: position " + position, automata.streetAt(0, position), due[position - 1]);
        }
        Due.same("21: slot 1", automata.streetAt(1, 1) * 10 + automata.streetAt(1, 2), 54);
    }

    private static void mostPositions() {
        StreetAutomata automata = Due.with("(" + "a?".repeat(24) + ")", "a".repeat(24));
        Due.same("20: 24", automata.positionCount(0), 24);
        Due.same("23: 24", automata.firstPositions(0), (1 << 25) - 2);
        Due.same("24: 24", automata.lastPositions(0), (1 << 25) - 2);
        Due.same("25: of 1", automata.followPositions(0, 1), (1 << 25) - 4);
        Due.same("25: of 24", automata.followPositions(0, 24), 0);
        Due.same("27: of 22", automata.isDeterministicAt(0, 22), false);
        Due.same("27: of 23", automata.isDeterministicAt(0, 23), true);
        Due.same("24: a chain", automata.lastPositions(1), 1 << 24);
        Due.same("25: a chain", automata.followPositions(1, 23), 1 << 24);
    }

    private static void loopsAreCountedInTheText() {
        StreetAutomata automata = Due.with("(a**b+?)*c?|d++", "()*+");
        Due.same("26: many", automata.loopCount(0), 6);
        Due.same("26: without positions", automata.loopCount(1), 2);
        automata.undo();
        Due.same("26: of a new object", automata.loopCount(1), 1);
        Due.compile(automata, 0, "a");
        Due.same("26: none", automata.loopCount(0), 0);
    }
}
