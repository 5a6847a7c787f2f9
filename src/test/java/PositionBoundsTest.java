/** Promises 20 to 27, sentence by sentence at their edges: the position automaton. */
public final class PositionBoundsTest {
    private static final int NONE = StreetAutomata.NONE;
    private static final int ALL = (1 << 25) - 2;
    private static final String MOST = "a".repeat(24);

    public static void main(String[] args) {
        positionCount();
        streetAt();
        acceptsEmptyWord();
        firstPositions();
        lastPositions();
        followPositions();
        loopCount();
        isDeterministicAt();
        Sentences.allOpened(20, 27);
        Due.end();
    }

    private static void positionCount() {
        Sentences.open(20, "Returns the number of positions of a pattern.");
        Edges.IndexCall call = (x, slot) -> x.positionCount(slot);
        Edges.inEachSlot("", call, 0);
        Edges.inEachSlot("()*|", call, 0);
        Edges.inEachSlot("a", call, 1);
        Edges.inEachSlot(".", call, 1);
        Edges.inEachSlot("a".repeat(23), call, 23);
        Edges.inEachSlot(MOST, call, 24);
        Edges.inEachSlot(".|".repeat(24), call, 24);
        Edges.slot(20, "slot", call);
    }

    private static void streetAt() {
        Sentences.open(21, "Returns what stands at a position.");
        Edges.IndexCall first = (x, slot) -> x.streetAt(slot, 1);
        Edges.IndexCall last = (x, slot) -> x.streetAt(slot, 24);
        for (int street = 0; street < 6; street++) {
            String letter = "" + (char) ('a' + street);
            Edges.inEachSlot(letter, first, street);
            Edges.inEachSlot(letter + ".".repeat(23), first, street);
            Edges.inEachSlot(".".repeat(23) + letter, last, street);
        }
        Sentences.open(21, "Returns the index of the street, or NONE for a dot.");
        Edges.inEachSlot(".", first, NONE);
        Edges.inEachSlot("." + "a".repeat(23), first, NONE);
        Edges.inEachSlot("a".repeat(23) + ".", last, NONE);
        StreetAutomata shorter = Due.with("......", "");
        Due.compile(shorter, 0, "abcdef");
        Due.same("no dot of the pattern before", shorter.streetAt(0, 6), 5);
        Edges.slot(21, "slot", (x, slot) -> x.streetAt(slot, 1));
        Edges.position(21, (x, slot, position) -> x.streetAt(slot, position));
    }

    private static void acceptsEmptyWord() {
        Sentences.open(22, "Returns whether the pattern accepts the empty word.");
        Edges.IndexCall call = (x, slot) -> x.acceptsEmptyWord(slot);
        for (String text : new String[] {"", "()", "|", "a|", "|a", "a*", "a?", "a?+", "a*+", "(a|)+", "a?b*", "()()", "(a?)+"}) {
            Edges.inEachSlot(text, call, true);
        }
        for (String text : new String[] {"a", ".", "a+", "a++", "a|b", "a?b", "ab?", "(a|b)+", "a*b", "()a", "(a|)b", MOST}) {
            Edges.inEachSlot(text, call, false);
        }
        Edges.slot(22, "slot", call);
    }

    private static void firstPositions() {
        Sentences.open(23, "Returns the set of the first positions of a pattern.");
        Edges.IndexCall call = (x, slot) -> x.firstPositions(slot);
        Edges.inEachSlot("", call, 0);
        Edges.inEachSlot("()*", call, 0);
        Edges.inEachSlot("a", call, 2);
        Edges.inEachSlot(MOST, call, 2);
        Edges.inEachSlot("a?".repeat(24), call, ALL);
        Edges.inEachSlot("a?".repeat(23) + "a", call, ALL);
        Edges.inEachSlot("a|".repeat(23) + "a", call, ALL);
        Edges.inEachSlot("a?".repeat(22) + "aa", call, ALL & ~(1 << 24));
        Edges.inEachSlot("a()b", call, 2);
        Edges.inEachSlot("(|a)b", call, 6);
        Edges.inEachSlot("(a+)b", call, 2);
        Edges.slot(23, "slot", call);
    }

    private static void lastPositions() {
        Sentences.open(24, "Returns the set of the last positions of a pattern.");
        Edges.IndexCall call = (x, slot) -> x.lastPositions(slot);
        Edges.inEachSlot("", call, 0);
        Edges.inEachSlot("|()", call, 0);
        Edges.inEachSlot("a", call, 2);
        Edges.inEachSlot(MOST, call, 1 << 24);
        Edges.inEachSlot("a?".repeat(24), call, ALL);
        Edges.inEachSlot("a" + "a?".repeat(23), call, ALL);
        Edges.inEachSlot("aa" + "a?".repeat(22), call, ALL & ~2);
        Edges.inEachSlot("a()", call, 2);
        Edges.inEachSlot("a(b|)", call, 6);
        Edges.inEachSlot("a(b+)", call, 4);
        Edges.slot(24, "slot", call);
    }

    private static void followPositions() {
        Sentences.open(25, "Returns the follow positions of a position.");
        Sentences.open(25, "Returns the set of its follow positions.");
        Edges.IndexCall first = (x, slot) -> x.followPositions(slot, 1);
        Edges.IndexCall last = (x, slot) -> x.followPositions(slot, 24);
        Edges.inEachSlot("a", first, 0);
        Edges.inEachSlot("a?", first, 0);
        Edges.inEachSlot("a*", first, 2);
        Edges.inEachSlot("a+", first, 2);
        Edges.inEachSlot("a|b", first, 0);
        Edges.inEachSlot("ab", first, 4);
        Edges.inEachSlot("a()b", first, 4);
        Edges.inEachSlot("a(|b)c", first, 12);
        Edges.inEachSlot("a?+", first, 2);
        Edges.inEachSlot(MOST, first, 4);
        Edges.inEachSlot(MOST, last, 0);
        Edges.inEachSlot("(" + MOST + ")+", last, 2);
        Edges.inEachSlot("a" + "a?".repeat(23), first, ALL & ~2);
        Edges.inEachSlot("(" + "a?".repeat(24) + ")+", first, ALL);
        Edges.inEachSlot("(" + "a?".repeat(24) + ")+", last, ALL);
        Edges.slot(25, "slot", first);
        Edges.position(25, (x, slot, position) -> x.followPositions(slot, position));
    }

    private static void loopCount() {
        Sentences.open(26, "Returns the number of operators \"*\" and \"+\" in the text of a pattern.");
        Edges.IndexCall call = (x, slot) -> x.loopCount(slot);
        Edges.inEachSlot("", call, 0);
        Edges.inEachSlot("a?", call, 0);
        Edges.inEachSlot("a*", call, 1);
        Edges.inEachSlot("a+", call, 1);
        Edges.inEachSlot("a*+*+", call, 4);
        Edges.inEachSlot("(a*)+?", call, 2);
        Edges.inEachSlot("()*", call, 1);
        Edges.inEachSlot("a" + "*".repeat(199), call, 199);
        Edges.inEachSlot("a" + "+".repeat(199), call, 199);
        Edges.inEachSlot("a" + "?".repeat(199), call, 0);
        StreetAutomata automata = Due.with("a**", "b");
        Due.compile(automata, 0, "a*+*(");
        Due.same("an error does not count", automata.loopCount(0), 2);
        Due.compile(automata, 0, "a+");
        Due.same("those of the pattern before do not count", automata.loopCount(0), 1);
        Edges.slot(26, "slot", call);
    }

    private static void isDeterministicAt() {
        Sentences.open(27, "Tells whether a position is deterministic: whether, among its follow positions, no two");
        Sentences.open(27, "Returns whether it is.");
        Edges.IndexCall first = (x, slot) -> x.isDeterministicAt(slot, 1);
        Edges.IndexCall last = (x, slot) -> x.isDeterministicAt(slot, 24);
        Edges.inEachSlot("a", first, true);
        Edges.inEachSlot("aa", first, true);
        Edges.inEachSlot("a*", first, true);
        Edges.inEachSlot("a.", first, true);
        Edges.inEachSlot("a(b|c|d|e|f|a)", first, true);
        for (String street : new String[] {"a", "b", "c", "d", "e", "f"}) {
            Edges.inEachSlot("a(" + street + "|" + street + ")", first, false);
            Edges.inEachSlot("a(" + street + "|.)", first, false);
            Edges.inEachSlot("a(.|" + street + ")", first, false);
            Edges.inEachSlot("a(" + "ab|cd|ef|" + street + ")", first, "bdf".contains(street));
        }
        Edges.inEachSlot("a(.|.)", first, false);
        Edges.inEachSlot("a(b|c|b)", first, false);
        Edges.inEachSlot("(a|b)a*b", first, true);
        Edges.inEachSlot("(a|a)b", first, true);
        Edges.inEachSlot("a(b|b)|c", first, false);
        Edges.inEachSlot("a*a", first, false);
        Edges.inEachSlot(MOST, last, true);
        Edges.inEachSlot("(" + MOST + ")*", last, true);
        Edges.inEachSlot("(" + "a?".repeat(24) + ")*", last, false);
        Edges.slot(27, "slot", first);
        Edges.position(27, (x, slot, position) -> x.isDeterministicAt(slot, position));
    }
}
