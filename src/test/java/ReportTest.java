/** Promises 59 to 62: the report. (What 60 and 61 write is compared in CompareTest.) */
public final class ReportTest {
    private static final int NONE = StreetAutomata.NONE;

    public static void main(String[] args) {
        writeWord();
        everyWord();
        noSuchWord();
        writeDifferenceAndSharedWord();
        reportByte();
        Due.end();
    }

    private static void word(StreetAutomata automata, int slot, int length, long number, String due) {
        String what = "59: " + length + " number " + number;
        Due.same(what, automata.writeWord(slot, length, number), due.length());
        Due.text(what, Due.report(automata), due);
    }

    private static void writeWord() {
        StreetAutomata automata = Due.with("a(b|c)*d", ".*");
        word(automata, 0, 2, 0, "ad");
        word(automata, 0, 4, 0, "abbd");
        word(automata, 0, 4, 1, "abcd");
        word(automata, 0, 4, 2, "acbd");
        word(automata, 0, 4, 3, "accd");
        word(automata, 0, 20, 0, "a" + "b".repeat(18) + "d");
        word(automata, 0, 20, 262143, "a" + "c".repeat(18) + "d");
        word(automata, 1, 0, 0, "");
        word(automata, 1, 1, 5, "f");
        word(automata, 1, 2, 6, "ba");
        word(automata, 1, 20, 3656158440062975L, "f".repeat(20));
        word(automata, 1, 20, 3656158440062974L, "f".repeat(19) + "e");
        word(automata, 1, 20, 609359740010496L, "b" + "a".repeat(19));
        Due.same("59: is no change", automata.undoCount(), 2);
    }

    private static void everyWord() {
        StreetAutomata automata = Due.with("(ba|ab|f|e.)*", "a|a|.");
        String before = "";
        for (int number = 0; number < automata.wordCount(0, 3); number++) {
            Due.same("59: every word", automata.writeWord(0, 3, number), 3);
            String now = Due.report(automata);
            Due.same("59: " + before + " is before " + now, before.compareTo(now) < 0, true);
            Due.type(automata, now);
            Due.same("59: " + now + " is accepted", automata.acceptsInput(0), true);
            automata.truncateInput(0);
            before = now;
        }
        word(automata, 1, 1, 1, "b");
    }

    private static void noSuchWord() {
        StreetAutomata automata = new StreetAutomata();
        Due.same("59: nothing was written", automata.writeWord(0, 1, 0), NONE);
        word(automata, 0, 3, 1, "acd");
        for (long number : new long[] {2, -1, Long.MIN_VALUE, Long.MAX_VALUE, 1L << 32}) {
            Due.same("59: number " + number, automata.writeWord(0, 3, number), NONE);
            Due.text("59: the report stays", Due.report(automata), "acd");
        }
        Due.same("59: no empty word", automata.writeWord(0, 0, 0), NONE);
        Due.same("59: one empty word", automata.writeWord(1, 0, 1), NONE);
        Due.text("59: the report stays", Due.report(automata), "acd");
        word(automata, 1, 0, 0, "");
    }

    private static void writeDifferenceAndSharedWord() {
        StreetAutomata automata = Due.with("a(b|c)d", "a(b|c|d)d");
        Due.same("60: length", automata.writeDifference(), 3);
        Due.text("60: in place of nothing", Due.report(automata), "add");
        Due.same("61: length", automata.writeSharedWord(), 3);
        Due.text("61: in place of the earlier one", Due.report(automata), "abd");
        automata.copyPattern(0);
        Due.same("60: no difference", automata.writeDifference(), NONE);
        Due.text("60: the report stays", Due.report(automata), "abd");
        Due.compile(automata, 1, "f");
        Due.same("61: nothing shared", automata.writeSharedWord(), NONE);
        Due.text("61: the report stays", Due.report(automata), "abd");
        Due.same("60: a shorter one", automata.writeDifference(), 1);
        Due.text("60: a shorter one in place of a longer one", Due.report(automata), "f");
        Due.same("60: the rest is gone", automata.reportByte(1), NONE);
        Due.same("60 and 61: no changes", automata.undoCount(), 4);
        automata.undo();
        Due.text("60: undo keeps the report", Due.report(automata), "f");
    }

    private static void reportByte() {
        StreetAutomata automata = new StreetAutomata();
        int[] outside = {-1, 4, 20, 3600, 3601, Integer.MIN_VALUE, Integer.MAX_VALUE};
        Due.same("62: nothing was written", automata.reportByte(0), NONE);
        for (int index : outside) {
            Due.same("62: nothing was written", automata.reportByte(index), NONE);
        }
        automata.writeWord(0, 4, 2);
        Due.same("62: 0", automata.reportByte(0), 'a');
        Due.same("62: 1", automata.reportByte(1), 'c');
        Due.same("62: 2", automata.reportByte(2), 'b');
        Due.same("62: 3", automata.reportByte(3), 'd');
        for (int index : outside) {
            Due.same("62: no byte " + index, automata.reportByte(index), NONE);
        }
        automata.writeWord(1, 0, 0);
        Due.same("62: an empty report", automata.reportByte(0), NONE);
    }
}
