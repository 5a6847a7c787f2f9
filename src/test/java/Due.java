import java.util.function.Supplier;

/** What the tests share: comparing answers, making objects in a known state, and looking at one. */
final class Due {
    private static int wrong = 0;
    private static String about = "";

    private Due() {
    }

    /** What the next comparisons are about; it is told with those that fail. */
    static void about(String what) {
        about = what + ": ";
    }

    static void same(String what, long got, long want) {
        text(what, Long.toString(got), Long.toString(want));
    }

    static void same(String what, boolean got, boolean want) {
        text(what, Boolean.toString(got), Boolean.toString(want));
    }

    static void text(String what, String got, String want) {
        if (!got.equals(want)) {
            wrong++;
            System.out.println(about + what + " answered " + got + ", due is " + want);
        }
    }

    static void refuses(String what, Class<? extends RuntimeException> due, Supplier<Object> call) {
        text(what, answer(call), "throws." + due.getSimpleName());
    }

    /** The answer of a call as a text; throws.X if it throws X. */
    static String answer(Supplier<Object> call) {
        try {
            return String.valueOf(call.get());
        } catch (RuntimeException e) {
            return "throws." + e.getClass().getSimpleName();
        }
    }

    static void end() {
        if (wrong != 0) {
            System.out.println(wrong + " answers are not as due");
            System.exit(1);
        }
    }

    /** Appends the bytes of a text to the input buffer, by whole calls of append and one truncateInput. */
    static void type(StreetAutomata automata, String text) {
        int length = automata.inputLength() + text.length();
        for (int from = 0; from < text.length(); from += 20) {
            int[] words = new int[5];
            for (int index = 0; index < 20; index++) {
                int value = from + index < text.length() ? text.charAt(from + index) : 0;
                words[index / 4] = words[index / 4] << 8 | value;
            }
            automata.append(words[0], words[1], words[2], words[3], words[4]);
        }
        automata.truncateInput(length);
    }

    static int compile(StreetAutomata automata, int slot, String text) {
        automata.truncateInput(0);
        type(automata, text);
        return automata.compile(slot);
    }

    static StreetAutomata with(String zero, String one) {
        StreetAutomata automata = new StreetAutomata();
        same("whether " + zero + " compiles", compile(automata, 0, zero) != StreetAutomata.NONE, true);
        same("whether " + one + " compiles", compile(automata, 1, one) != StreetAutomata.NONE, true);
        return automata;
    }

    static String report(StreetAutomata automata) {
        StringBuilder text = new StringBuilder();
        int value = automata.reportByte(0);
        while (value != StreetAutomata.NONE) {
            text.append((char) value);
            value = automata.reportByte(text.length());
        }
        return text.toString();
    }

    /** A pattern, by its position automaton and some numbers of its deterministic one. */
    static String pattern(StreetAutomata automata, int slot) {
        StringBuilder text = new StringBuilder();
        text.append("first ").append(automata.firstPositions(slot));
        text.append(" last ").append(automata.lastPositions(slot));
        text.append(" empty ").append(automata.acceptsEmptyWord(slot));
        text.append(" loops ").append(automata.loopCount(slot));
        text.append(" streets>follow");
        for (int position = 1; position <= automata.positionCount(slot); position++) {
            text.append(' ').append(automata.streetAt(slot, position));
            text.append('>').append(automata.followPositions(slot, position));
        }
        text.append(" states ").append(automata.stateCount(slot));
        text.append(" words ").append(automata.wordCount(slot, 20));
        return text.toString();
    }

    static String patterns(StreetAutomata automata) {
        return pattern(automata, 0) + " | " + pattern(automata, 1);
    }

    /** For example "false4 oocooo 1/3/2": by day, 4 steps in all, street c closed, a walker's slot, state and steps. */
    static String gatesAndWalkers(StreetAutomata automata) {
        StringBuilder text = new StringBuilder();
        text.append(automata.isNight()).append(automata.totalSteps()).append(' ');
        for (int street = 0; street < 6; street++) {
            text.append(automata.isPassable(street) ? 'o' : 'c');
        }
        for (int walker = 0; walker < automata.walkerCount(); walker++) {
            text.append(' ').append(automata.walkerSlot(walker)).append('/').append(automata.walkerState(walker));
            text.append('/').append(automata.walkerSteps(walker));
        }
        return text.toString();
    }

    /** Everything that undo restores, but for the gates of the other time. */
    static String world(StreetAutomata automata) {
        return patterns(automata) + " " + gatesAndWalkers(automata);
    }

    /** Everything that undo restores; the change of the time is undone, but an undo more than 7 back is lost. */
    static String bothTimes(StreetAutomata automata) {
        boolean night = automata.isNight();
        String now = world(automata);
        automata.setNight(!night);
        String other = gatesAndWalkers(automata);
        automata.undo();
        return now + " | " + other;
    }

    /** All that can be seen of an object; it is of no use afterwards, for some things show only by a change. */
    static String everything(StreetAutomata automata) {
        return automata.patternErrorKind() + "@" + automata.patternErrorOffset() + " " + allButError(automata);
    }

    static String allButError(StreetAutomata automata) {
        StringBuilder text = new StringBuilder();
        text.append(automata.inputLength()).append(' ').append(automata.undoCount()).append(' ');
        text.append(report(automata)).append(' ').append(world(automata));
        text.append(" input ").append(automata.compile(0)).append('!');
        text.append(automata.patternErrorKind()).append('@').append(automata.patternErrorOffset());
        for (int position = 1; position <= automata.positionCount(0); position++) {
            text.append(automata.streetAt(0, position));
        }
        text.append(" other gates ").append(automata.setNight(!automata.isNight()));
        text.append(gatesAndWalkers(automata)).append(" undo ");
        for (int time = 0; time < 9; time++) {
            text.append(automata.undo()).append(' ').append(gatesAndWalkers(automata)).append(' ');
        }
        text.append(" before ").append(patterns(automata));
        text.append(" snapshot ").append(answer(() -> automata.restoreSnapshot()));
        text.append(world(automata));
        return text.toString();
    }
}
