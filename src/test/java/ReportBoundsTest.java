/** Promises 59 to 62, sentence by sentence at their edges: the report. */
public final class ReportBoundsTest {
    private static final int NONE = StreetAutomata.NONE;
    private static final long ALL_OF_20 = 3656158440062976L;
    private static final String CHAIN = "a".repeat(24);

    public static void main(String[] args) {
        writeWord();
        writeWordReturns();
        noWordWithSuchANumber();
        writeDifference();
        writeDifferenceReturns();
        writeSharedWord();
        writeSharedWordReturns();
        inPlaceOfThePreviousReport();
        reportByte();
        noSuchByte();
        reportsAreNoChanges();
        Sentences.allOpened(59, 62);
        Due.end();
    }

    /** Writes and tells the report in one text: "3 abc". */
    private static Edges.IndexCall word(int length, long number) {
        return (x, slot) -> x.writeWord(slot, length, number) + " " + Due.report(x);
    }

    private static void writeWord() {
        Sentences.open(59, "the word with a number among the accepted words of a length in alphabetical order.");
        Sentences.open(59, "- `number`: 0 for the first word");
        Edges.inEachSlot("", word(0, 0), "0 ");
        Edges.inEachSlot(".*", word(0, 0), "0 ");
        Edges.inEachSlot(".*", word(1, 0), "1 a");
        Edges.inEachSlot(".*", word(1, 5), "1 f");
        Edges.inEachSlot("b|d|a", word(1, 0), "1 a");
        Edges.inEachSlot("b|d|a", word(1, 1), "1 b");
        Edges.inEachSlot("b|d|a", word(1, 2), "1 d");
        Edges.inEachSlot("fa|bc|af", word(2, 1), "2 bc");
        Edges.inEachSlot("a|.|a", word(1, 1), "1 b");
        Edges.inEachSlot(".*", word(20, 0), "20 " + "a".repeat(20));
        Edges.inEachSlot(".*", word(20, 1), "20 " + "a".repeat(19) + "b");
        Edges.inEachSlot(".*", word(20, ALL_OF_20 - 1), "20 " + "f".repeat(20));
        Edges.inEachSlot(".*", word(20, ALL_OF_20 / 6 - 1), "20 a" + "f".repeat(19));
        Edges.inEachSlot(".*", word(20, ALL_OF_20 / 6), "20 b" + "a".repeat(19));
        Edges.inEachSlot(".*f", word(20, 1L << 32), "20 " + baseSix(1L << 32) + "f");
        Edges.inEachSlot(".*f", word(20, Integer.MAX_VALUE), "20 " + baseSix(Integer.MAX_VALUE) + "f");
        Edges.slot(59, "slot", (x, slot) -> x.writeWord(slot, 2, 0));
        Edges.length(59, (x, slot, length) -> x.writeWord(slot, length, 0));
        Edges.length(59, (x, slot, length) -> x.writeWord(slot, length, Long.MIN_VALUE));
    }

    /** A number in 19 letters, a for 0 to f for 5. */
    private static String baseSix(long number) {
        StringBuilder text = new StringBuilder();
        long rest = number;
        for (int place = 0; place < 19; place++) {
            text.append((char) ('a' + rest % 6));
            rest /= 6;
        }
        return text.reverse().toString();
    }

    private static void writeWordReturns() {
        Sentences.open(59, "Returns the length of the report");
        for (int length = 0; length <= 20; length++) {
            Edges.inEachSlot("a*", word(length, 0), length + " " + "a".repeat(length));
        }
    }

    private static void noWordWithSuchANumber() {
        Sentences.open(59, "or NONE (and the report does not change) if there is no word with this number.");
        for (int slot = 0; slot < 2; slot++) {
            StreetAutomata automata = Due.with("a(b|c)*d", "a(b|c)*d");
            automata.writeWord(slot, 4, 2);
            for (int length = 0; length <= 20; length++) {
                long count = length < 2 ? 0 : 1L << length - 2;
                for (long number : new long[] {-1, Long.MIN_VALUE, Integer.MIN_VALUE, count, count + 1, Long.MAX_VALUE}) {
                    Due.same(number + " of " + count, automata.writeWord(slot, length, number), NONE);
                }
            }
            Due.text("the report stays", Due.report(automata), "acbd");
        }
        Edges.inEachSlot(".*", word(20, ALL_OF_20), NONE + " ");
        Edges.inEachSlot(".*", word(0, 1), NONE + " ");
        Edges.inEachSlot(".+", word(0, 0), NONE + " ");
        Edges.inEachSlot(CHAIN, word(20, 0), NONE + " ");
        StreetAutomata none = new StreetAutomata();
        none.writeWord(0, 0, 0);
        Due.text("nothing was written", Due.everything(none), Due.everything(new StreetAutomata()));
    }

    private static void written(String what, String zero, String one, Edges.Call call, String due) {
        StreetAutomata automata = Due.with(zero, one);
        StreetAutomata turned = Due.with(one, zero);
        String length = "" + (due == null ? NONE : due.length());
        String report = due == null ? "" : due;
        Due.text(what + zero + " and " + one, "" + call.on(automata), length);
        Due.text(what + zero + " and " + one + ", report", Due.report(automata), report);
        Due.text(what + one + " and " + zero, "" + call.on(turned), length);
        Due.text(what + one + " and " + zero + ", report", Due.report(turned), report);
    }

    private static void writeDifference() {
        Sentences.open(60, "Writes the first word in alphabetical order among the shortest words that exactly one of the two patterns accepts");
        Edges.Call call = x -> x.writeDifference();
        written("the empty word: ", "", "a", call, "");
        written("one letter: ", "a", "f", call, "a");
        written("one letter: ", "", "f|e|", call, "e");
        written("shortest before first: ", "aa|f", "ab|f?", call, "");
        written("shortest before first: ", "aa|f", "ab", call, "f");
        written("first of several: ", "fa|ef|ea|", "", call, "ea");
        written("by the first letter first: ", "(bf|ca)?", "", call, "bf");
        written("what both accept does not count: ", "aa|ab|b", "aa|b", call, "ab");
        written("the longest chain: ", CHAIN, "a".repeat(23) + "b", call, CHAIN);
    }

    private static void writeDifferenceReturns() {
        Sentences.open(60, "Returns the length of the report, or NONE (and the report does not change) if both patterns accept the same words.");
        Edges.Call call = x -> x.writeDifference();
        written("the same: ", "", "()", call, null);
        written("the same: ", "a+", "aa*", call, null);
        written("the same: ", Edges.SIXTY_STATES, Edges.SIXTY_STATES, call, null);
        StreetAutomata automata = Due.with("ab", "ab");
        automata.writeWord(0, 2, 0);
        Due.same("the same", automata.writeDifference(), NONE);
        Due.text("the report stays", Due.report(automata), "ab");
        for (int length = 0; length <= 23; length++) {
            StreetAutomata longer = Due.with("a".repeat(length), "a".repeat(length + 1));
            Due.same("length", longer.writeDifference(), length);
            Due.text("report", Due.report(longer), "a".repeat(length));
        }
    }

    private static void writeSharedWord() {
        Sentences.open(61, "Writes the first word in alphabetical order among the shortest words that both patterns accept");
        Edges.Call call = x -> x.writeSharedWord();
        written("the empty word: ", "a*", "b*", call, "");
        written("one letter: ", "f", ".", call, "f");
        written("shortest before first: ", "aa|f", "..?", call, "f");
        written("first of several: ", "fa|ef|ea", "..", call, "ea");
        written("by the first letter first: ", "bf|ca", "..", call, "bf");
        written("what one accepts does not count: ", "a|b", "c|b|", call, "b");
        written("the longest chain: ", CHAIN, ".+", call, CHAIN);
        written("far: ", "(" + "f".repeat(19) + ")+", "(" + "f".repeat(20) + ")+", call, "f".repeat(380));
    }

    private static void writeSharedWordReturns() {
        Sentences.open(61, "Returns the length of the report, or NONE (and the report does not change) if there is no such word.");
        Edges.Call call = x -> x.writeSharedWord();
        written("none: ", "", "a", call, null);
        written("none: ", "(aa)*", "a(aa)*", call, null);
        written("none: ", "a".repeat(23), CHAIN, call, null);
        StreetAutomata automata = Due.with("ab", "c");
        automata.writeWord(0, 2, 0);
        Due.same("none", automata.writeSharedWord(), NONE);
        Due.text("the report stays", Due.report(automata), "ab");
        for (int length = 0; length <= 24; length++) {
            StreetAutomata longer = Due.with("f".repeat(length), ".*");
            Due.same("length", longer.writeSharedWord(), length);
            Due.text("report", Due.report(longer), "f".repeat(length));
        }
    }

    private static void inPlaceOfThePreviousReport() {
        StreetAutomata automata = Due.with("a*", "a+b?");
        for (int round = 0; round < 2; round++) {
            Sentences.open(59, "Writes a word of a pattern as a report, in place of the previous report");
            automata.writeWord(0, 20, 0);
            Due.text("a longer one", Due.report(automata), "a".repeat(20));
            automata.writeWord(1, 2, 1);
            Due.text("a shorter one", Due.report(automata), "ab");
            Sentences.open(60, "as a report, in place of the previous report.");
            automata.writeDifference();
            Due.text("the empty one", Due.report(automata), "");
            automata.writeWord(1, 3, 1);
            Due.text("after the empty one", Due.report(automata), "aab");
            Sentences.open(61, "as a report, in place of the previous report.");
            automata.writeSharedWord();
            Due.text("a shorter one again", Due.report(automata), "a");
        }
        StreetAutomata far = Due.with("(" + "a".repeat(22) + ")+", "(" + "a".repeat(23) + ")+|f");
        Due.same("a long one", far.writeSharedWord(), 506);
        far.writeDifference();
        Due.text("one letter after 506", Due.report(far), "f");
    }

    private static void reportByte() {
        Sentences.open(62, "Returns a byte of the report.");
        Sentences.open(62, "- `index`: the index of the byte, from 0");
        StreetAutomata automata = Due.with("abcdef", "abcdeff");
        automata.writeDifference();
        for (int index = 0; index < 6; index++) {
            Due.same("index " + index, automata.reportByte(index), 97 + index);
        }
        StreetAutomata longest = Due.with("(" + "a".repeat(23) + ")+", "(" + CHAIN + ")+");
        longest.writeSharedWord();
        Due.same("index 0 of 552", longest.reportByte(0), 97);
        Due.same("index 551 of 552", longest.reportByte(551), 97);
        Due.same("index 552 of 552", longest.reportByte(552), NONE);
    }

    private static void noSuchByte() {
        Sentences.open(62, "Returns the byte, or NONE if the report has no such byte or nothing was written.");
        StreetAutomata automata = new StreetAutomata();
        int[] beyond = {-1, 20, 200, 552, 3599, 3600, Integer.MIN_VALUE, Integer.MAX_VALUE};
        for (int index : beyond) {
            Due.same("nothing was written, " + index, automata.reportByte(index), NONE);
        }
        Due.same("nothing was written, 0", automata.reportByte(0), NONE);
        for (int length = 0; length <= 20; length++) {
            StreetAutomata written = Due.with("f*", "");
            written.writeWord(0, 20, 0);
            written.writeWord(0, length, 0);
            Due.same("first of " + length, written.reportByte(0), length == 0 ? NONE : 102);
            Due.same("last of " + length, written.reportByte(length - 1), length == 0 ? NONE : 102);
            Due.same("behind " + length, written.reportByte(length), NONE);
            for (int index : beyond) {
                Due.same("of " + length + ", " + index, written.reportByte(index), NONE);
            }
        }
    }

    private static void reportsAreNoChanges() {
        Due.about("reports are no changes");
        StreetAutomata automata = Edges.walkers(2);
        automata.writeWord(0, 2, 0);
        automata.writeDifference();
        automata.writeSharedWord();
        Due.same("undoCount", automata.undoCount(), 2);
        String report = Due.report(automata);
        automata.saveSnapshot();
        automata.undo();
        Due.text("after undo", Due.report(automata), report);
        automata.writeWord(0, 2, 0);
        automata.restoreSnapshot();
        Due.text("after restoreSnapshot", Due.report(automata), "ad");
        Due.compile(automata, 0, "f");
        Due.text("after compile", Due.report(automata), "ad");
    }
}
