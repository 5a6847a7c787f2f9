import java.util.function.Supplier;

/**
 * The edges of the ranges of parameters: each value that exists is answered, each that does not is
 * refused by the exception that the document names, and a refused call changes nothing.
 */
final class Edges {
    static final Class<IndexOutOfBoundsException> NO_INDEX = IndexOutOfBoundsException.class;
    static final Class<IllegalArgumentException> NO_LENGTH = IllegalArgumentException.class;

    /** 21 positions and 60 states: d leads to 32, c to 16 more, each e to one; then state 0 and the dead one. */
    static final String SIXTY_STATES = "d.*a....|c.*a...|eeeeeeee";

    private static final int[] STREETS_BEYOND = {-1, 6, 32, Integer.MIN_VALUE, Integer.MAX_VALUE};
    private static final int[] LENGTHS_BEYOND = {-1, 21, Integer.MIN_VALUE, Integer.MAX_VALUE};

    interface Call {
        Object on(StreetAutomata automata);
    }

    interface IndexCall {
        Object on(StreetAutomata automata, int index);
    }

    interface SlotAndIndexCall {
        Object on(StreetAutomata automata, int slot, int index);
    }

    private Edges() {
    }

    /** Four walkers, closed streets, 8 changes, an error, a report, a snapshot, and "bad.f" in the buffer. */
    static StreetAutomata busy() {
        StreetAutomata automata = walkers(4);
        automata.step(0, 0);
        automata.step(3, 0);
        automata.saveSnapshot();
        automata.step(3, 1);
        automata.copyPattern(0);
        automata.step(1, 0);
        automata.setGate(2, false, false);
        automata.setGate(4, true, false);
        Due.compile(automata, 0, "ab)");
        automata.writeWord(0, 3, 1);
        Due.type(automata, "bad.f");
        return automata;
    }

    /** Some walkers, in slots 0 and 1 by turns. */
    static StreetAutomata walkers(int count) {
        StreetAutomata automata = new StreetAutomata();
        for (int walker = 0; walker < count; walker++) {
            automata.addWalker(walker % 2);
        }
        return automata;
    }

    static void refuses(String what, Class<? extends RuntimeException> due, Supplier<StreetAutomata> maker, Call call) {
        StreetAutomata automata = maker.get();
        Due.refuses(what, due, () -> call.on(automata));
        Due.text(what + ": what stands after a refused call", Due.everything(automata), Due.everything(maker.get()));
    }

    static void answers(String what, Supplier<StreetAutomata> maker, Call call) {
        StreetAutomata automata = maker.get();
        Due.same(what + ": whether it throws", Due.answer(() -> call.on(automata)).startsWith("throws."), false);
    }

    /** What a call answers for a text in either slot, while the other slot holds another pattern. */
    static void inEachSlot(String text, IndexCall call, Object due) {
        Due.text("\"" + text + "\" in slot 0", "" + call.on(Due.with(text, "b?c|bd"), 0), "" + due);
        Due.text("\"" + text + "\" in slot 1", "" + call.on(Due.with("b?c|bd", text), 1), "" + due);
    }

    static void slot(int promise, String name, IndexCall call) {
        Sentences.open(promise, "- `" + name + "`");
        for (int slot = 0; slot < 2; slot++) {
            int exists = slot;
            answers(name + " " + slot, Edges::busy, x -> call.on(x, exists));
        }
        openRefusal(promise, name);
        for (int slot : new int[] {-1, 2, Integer.MIN_VALUE, Integer.MAX_VALUE}) {
            refuses(name + " " + slot, NO_INDEX, StreetAutomata::new, x -> call.on(x, slot));
            refuses(name + " " + slot, NO_INDEX, Edges::busy, x -> call.on(x, slot));
        }
    }

    static void walker(int promise, String name, IndexCall call) {
        for (int count = 0; count <= 6; count++) {
            int all = count;
            Sentences.open(promise, "- `" + name + "`");
            for (int walker = 0; walker < count; walker++) {
                int exists = walker;
                answers(name + " " + walker + " of " + count, () -> walkers(all), x -> call.on(x, exists));
            }
            openRefusal(promise, name);
            for (int walker : new int[] {-1, count, 6, Integer.MIN_VALUE, Integer.MAX_VALUE}) {
                refuses(name + " " + walker + " of " + count, NO_INDEX, () -> walkers(all), x -> call.on(x, walker));
            }
        }
        for (int walker : new int[] {-1, 4, 5, 6, Integer.MIN_VALUE, Integer.MAX_VALUE}) {
            refuses(name + " " + walker + " of 4", NO_INDEX, Edges::busy, x -> call.on(x, walker));
        }
    }

    static void street(int promise, IndexCall call) {
        Sentences.open(promise, "- `street`");
        for (int street = 0; street < 6; street++) {
            int exists = street;
            answers("street " + street, () -> walkers(1), x -> call.on(x, exists));
        }
        openRefusal(promise, "street");
        for (int street : STREETS_BEYOND) {
            refuses("street " + street, NO_INDEX, () -> walkers(1), x -> call.on(x, street));
            refuses("street " + street, NO_INDEX, Edges::busy, x -> call.on(x, street));
        }
    }

    static void position(int promise, SlotAndIndexCall call) {
        String[] texts = {"", "a", "a(b|c)*d", "a".repeat(24)};
        int[] counts = {0, 1, 4, 24};
        for (int index = 0; index < texts.length; index++) {
            String text = texts[index];
            Sentences.open(promise, "- `position`");
            for (int position = 1; position <= counts[index]; position++) {
                int exists = position;
                answers("0, " + position + " of " + text, () -> Due.with(text, "ab"), x -> call.on(x, 0, exists));
                answers("1, " + position + " of " + text, () -> Due.with("ab", text), x -> call.on(x, 1, exists));
            }
            openRefusal(promise, "position");
            for (int position : new int[] {-1, 0, counts[index] + 1, 25, Integer.MIN_VALUE, Integer.MAX_VALUE}) {
                refuses("0, " + position + " of " + text, NO_INDEX, () -> Due.with(text, "ab"), x -> call.on(x, 0, position));
                refuses("1, " + position + " of " + text, NO_INDEX, () -> Due.with("ab", text), x -> call.on(x, 1, position));
            }
        }
    }

    static void state(int promise, String name, SlotAndIndexCall call) {
        String[] texts = {"", ".*", "a(b|c)*d", SIXTY_STATES};
        int[] counts = {2, 2, 6, 60};
        for (int index = 0; index < texts.length; index++) {
            String text = texts[index];
            Sentences.open(promise, "- `" + name + "`");
            for (int state = 0; state < counts[index]; state++) {
                int exists = state;
                answers("0, " + state + " of " + text, () -> Due.with(text, "a"), x -> call.on(x, 0, exists));
                answers("1, " + state + " of " + text, () -> Due.with("a", text), x -> call.on(x, 1, exists));
            }
            openRefusal(promise, name);
            for (int state : new int[] {-1, counts[index], 60, Integer.MIN_VALUE, Integer.MAX_VALUE}) {
                refuses("0, " + state + " of " + text, NO_INDEX, () -> Due.with(text, "a"), x -> call.on(x, 0, state));
                refuses("1, " + state + " of " + text, NO_INDEX, () -> Due.with("a", text), x -> call.on(x, 1, state));
            }
        }
    }

    /** The length of words that are counted or written. */
    static void length(int promise, SlotAndIndexCall call) {
        Sentences.open(promise, "- `length`: 0 to 20");
        for (int length = 0; length <= 20; length++) {
            int fits = length;
            answers("length " + length, Edges::busy, x -> call.on(x, 0, fits));
            answers("length " + length, Edges::busy, x -> call.on(x, 1, fits));
        }
        Sentences.open(promise, "Throws `IllegalArgumentException` if `length` is out of range");
        for (int length : LENGTHS_BEYOND) {
            refuses("length " + length, NO_LENGTH, Edges::busy, x -> call.on(x, 0, length));
            refuses("length " + length, NO_LENGTH, StreetAutomata::new, x -> call.on(x, 1, length));
        }
        Sentences.open("Changes and undo", "If several exceptions apply to a call, the one that is listed first is thrown.");
        for (int length : LENGTHS_BEYOND) {
            refuses("slot 2, length " + length, NO_INDEX, Edges::busy, x -> call.on(x, 2, length));
            refuses("slot -1, length " + length, NO_INDEX, Edges::busy, x -> call.on(x, -1, length));
        }
    }

    private static void openRefusal(int promise, String name) {
        Sentences.open(promise, "Throws `IndexOutOfBoundsException` if " + name + " does not exist");
    }
}
