import java.util.HashSet;
import java.util.Set;

/** The terms Streets, Patterns, Position automaton, Deterministic automaton and Errors of a pattern, by their edges. */
public final class PatternTermsTest {
    private static final int NONE = StreetAutomata.NONE;
    private static final String OPEN = "(".repeat(20);
    private static final String CLOSE = ")".repeat(20);

    public static void main(String[] args) {
        streets();
        gates();
        slots();
        grammar();
        streetsAndDots();
        emptyBranches();
        operators();
        otherBytes();
        positions();
        mostPositionsAndParentheses();
        positionAutomaton();
        setsOfPositions();
        statesAreSets();
        statesAreNumberedAsFound();
        deadState();
        acceptingStates();
        mostStates();
        firstErrorCounts();
        wrongByteOrEnd();
        position25();
        parenthesis21();
        state61();
        for (String part : new String[] {"Streets", "Patterns", "Position automaton", "Deterministic automaton",
            "Errors of a pattern"}) {
            Sentences.allOpened(part);
        }
        Due.end();
    }

    private static void streets() {
        Sentences.open("Streets", "There are six streets, named by the letters a to f.");
        for (int value = '`'; value <= 'g'; value++) {
            boolean isStreet = value != '`' && value != 'g';
            StreetAutomata automata = new StreetAutomata();
            Due.same("compile " + (char) value, Due.compile(automata, 0, "" + (char) value), isStreet ? 1 : NONE);
            Due.same("walk " + (char) value, walkedSteps("" + (char) value), isStreet ? 1 : 0);
            Due.same("accept " + (char) value, accepts(".", "" + (char) value), isStreet);
        }
        Sentences.open("Streets", "In methods a street is given by its index: 0 for a, 5 for f.");
        for (int street = 0; street < 6; street++) {
            StreetAutomata automata = Due.with("" + (char) ('a' + street), "a");
            Due.same("streetAt", automata.streetAt(0, 1), street);
            Due.same("transition", automata.isAccepting(0, automata.transition(0, 0, street)), true);
            automata.addWalker(0);
            Due.same("streetHome", automata.streetHome(0), street);
            Due.same("step", automata.isAccepting(0, automata.step(0, street)), true);
        }
    }

    private static int walkedSteps(String word) {
        StreetAutomata automata = Edges.walkers(1);
        Due.type(automata, word);
        return automata.walkWord(0);
    }

    private static boolean accepts(String pattern, String word) {
        StreetAutomata automata = Due.with(pattern, "");
        Due.type(automata, word);
        return automata.acceptsInput(0);
    }

    private static void gates() {
        for (int street = 0; street < 6; street++) {
            StreetAutomata automata = new StreetAutomata();
            Sentences.open("Streets", "All gates are open at first, and it is day.");
            Due.same("day", automata.isNight(), false);
            Due.same("open by day", automata.setGate(street, false, true), true);
            Due.same("open by night", automata.setGate(street, true, true), true);
            Sentences.open("Streets", "Each street has two gates, one for the day and one for the night; a gate is open or closed.");
            automata.setGate(street, false, false);
            Due.same("the one by night stays open", automata.setGate(street, true, false), true);
            Due.same("the one by day is closed", automata.setGate(street, false, true), false);
            Due.same("the one by night is closed", automata.setGate(street, true, true), false);
            Sentences.open("Streets", "A street is passable if its gate for the present time (day or night) is open.");
            for (int gates = 0; gates < 4; gates++) {
                automata.setGate(street, false, (gates & 1) != 0);
                automata.setGate(street, true, (gates & 2) != 0);
                automata.setNight(false);
                Due.same("by day", automata.isPassable(street), (gates & 1) != 0);
                automata.setNight(true);
                Due.same("by night", automata.isPassable(street), (gates & 2) != 0);
            }
        }
    }

    private static void slots() {
        Sentences.open("Patterns", "There are two pattern slots, 0 and 1; each holds a compiled pattern.");
        StreetAutomata automata = Due.with("ab", "cde");
        Due.same("slot 0", automata.positionCount(0), 2);
        Due.same("slot 1", automata.positionCount(1), 3);
        Edges.refuses("slot 2", Edges.NO_INDEX, StreetAutomata::new, x -> x.positionCount(2));
        Edges.refuses("slot -1", Edges.NO_INDEX, StreetAutomata::new, x -> x.positionCount(-1));
    }

    private static void grammar() {
        Sentences.open("Patterns", "The grammar of a pattern is:");
        String[] right = {"", "a", "|", "a|b", "a|b|c", "||||", "ab", "a*", "a+", "a?", "a*+?", "a??**++", ".", ".*.", "(a)",
            "()", "()*", "(|)", "((()))", "(a|b)*(c)+|(d)?", "a()b", "()()", "a|", "|a", "(a|)|(|b)"};
        for (String text : right) {
            Due.same("no error in " + text, Due.compile(new StreetAutomata(), 0, text) == NONE, false);
        }
        String[] wrong = {"*", "+", "?", "|*", "a|?", "(*)", "(+a)", "a(?)", ")", "a)", "())", "(", "((a)", "(a|", "a|(b", "|)"};
        int[] offsets = {0, 0, 0, 1, 2, 1, 1, 2, 0, 1, 2, 1, 4, 3, 4, 1};
        for (int index = 0; index < wrong.length; index++) {
            error(wrong[index], 1, offsets[index]);
        }
    }

    private static void streetsAndDots() {
        Sentences.open("Patterns", "A street is one of the letters a to f.");
        for (int value = 0; value < 256; value++) {
            boolean isStreet = value >= 'a' && value <= 'f';
            StreetAutomata automata = new StreetAutomata();
            int count = Due.compile(automata, 0, "" + (char) value);
            Due.same("byte " + value, count, isStreet || value == '.' ? 1 : value == '|' ? 0 : NONE);
            Due.same("street of byte " + value, count == 1 ? automata.streetAt(0, 1) : NONE, isStreet ? value - 'a' : NONE);
        }
        Sentences.open("Patterns", "The dot stands for any one street.");
        for (String word : new String[] {"a", "b", "c", "d", "e", "f"}) {
            Due.same("one street", accepts(".", word), true);
            Due.same("one street, not another one", accepts(word, "a"), word.equals("a"));
        }
        Due.same("not no street", accepts(".", ""), false);
        Due.same("not two streets", accepts(".", "ab"), false);
        Due.same("not a dot", accepts(".", "."), false);
        Due.same("24 dots", accepts(".".repeat(24), "abcdef".repeat(4)), true);
        Due.same("23 streets", accepts(".".repeat(24), "a".repeat(23)), false);
        Due.same("25 streets", accepts(".".repeat(24), "a".repeat(25)), false);
    }

    private static void emptyBranches() {
        Sentences.open("Patterns", "A branch without pieces stands for the empty word.");
        for (String text : new String[] {"|a", "a|", "a||b", "|", "||", "(|a)", "(a|)", "(a||b)", "()", "(())", "(|)(|)"}) {
            Due.same("the empty word and " + text, accepts(text, ""), true);
        }
        for (String text : new String[] {"a|b", "(a|b)", "(|a)b", "a(b|)", "a()", "()a"}) {
            Due.same("the empty word and " + text, accepts(text, ""), false);
        }
        Due.same("b", accepts("(|a)b", "b"), true);
        Due.same("a", accepts("a(b|)", "a"), true);
        Due.same("nothing between", accepts("a()b", "ab"), true);
        Sentences.open("Patterns", "The empty text is a pattern; it stands for the empty word.");
        Due.same("no positions", Due.compile(new StreetAutomata(), 0, ""), 0);
        Due.same("the empty word", accepts("", ""), true);
        for (String word : new String[] {"a", "f", "aa", "\0", "a".repeat(200)}) {
            Due.same(word, accepts("", word), false);
        }
    }

    private static void operators() {
        Sentences.open("Patterns", "The operators have their usual meaning: \"*\" is zero or more repetitions, \"+\" is one or more");
        for (int times : new int[] {0, 1, 2, 3, 199, 200}) {
            String word = "a".repeat(times);
            Due.same(times + " of a*", accepts("a*", word), true);
            Due.same(times + " of a+", accepts("a+", word), times >= 1);
            Due.same(times + " of a?", accepts("a?", word), times <= 1);
            Due.same(times + " of a", accepts("a", word), times == 1);
            Due.same(times + " of a+?", accepts("a+?", word), true);
            Due.same(times + " of a?+", accepts("a?+", word), true);
            Due.same(times + " of a??", accepts("a??", word), times <= 1);
            Due.same(times + " of a++", accepts("a++", word), times >= 1);
        }
        for (int times : new int[] {0, 1, 2, 3, 99, 100}) {
            String word = "ab".repeat(times);
            Due.same(times + " of (ab)*", accepts("(ab)*", word), true);
            Due.same(times + " of (ab)+", accepts("(ab)+", word), times >= 1);
            Due.same(times + " of (ab)?", accepts("(ab)?", word), times <= 1);
            Due.same(times + " of (ab|)+", accepts("(ab|)+", word), true);
            Due.same("an operator takes the latest piece alone", accepts("ab*", word), times == 1);
        }
        Due.same("b is repeated alone", accepts("ab*", "abbb"), true);
        Due.same("no half of a group", accepts("(ab)*", "aba"), false);
        Due.same("of the second branch alone", accepts("a|b*", "aa"), false);
    }

    private static void otherBytes() {
        Sentences.open("Patterns", "No other bytes are allowed in a pattern, not even spaces.");
        for (int value = 0; value < 256; value++) {
            boolean isAllowed = "abcdef.|*+?".indexOf(value) >= 0;
            if (!isAllowed && value != '(' && value != ')') {
                error("a" + (char) value, 1, 1);
                error((char) value + "a", 1, 0);
                error("(b*" + (char) value + ")", 1, 3);
                error("a|" + (char) value + ".", 1, 2);
            }
            StreetAutomata automata = new StreetAutomata();
            Due.same("byte " + value, Due.compile(automata, 1, "a" + (char) value) == NONE, !isAllowed);
        }
    }

    private static void positions() {
        Sentences.open("Patterns", "The positions of a pattern are its streets and dots, numbered from 1 in the order");
        StreetAutomata automata = Due.with("f|(e*(d).)+|((c)b)?|()a", "");
        int[] due = {5, 4, 3, NONE, 2, 1, 0};
        Due.same("seven", automata.positionCount(0), 7);
        for (int position = 1; position <= 7; position++) {
            Due.same("position " + position, automata.streetAt(0, position), due[position - 1]);
        }
        for (int position : new int[] {0, 8}) {
            Edges.refuses("position " + position, Edges.NO_INDEX, () -> Due.with("f|(e*(d).)+|((c)b)?|()a", ""),
                    x -> x.streetAt(0, position));
        }
        Due.same("without positions", Due.with("(|())*", "").positionCount(0), 0);
    }

    private static void mostPositionsAndParentheses() {
        Sentences.open("Patterns", "A pattern has at most 24 positions");
        Due.same("23 positions", Due.compile(new StreetAutomata(), 0, "a".repeat(23)), 23);
        Due.same("24 positions", Due.compile(new StreetAutomata(), 0, "a".repeat(24)), 24);
        Due.same("24 dots", Due.compile(new StreetAutomata(), 0, ".".repeat(24)), 24);
        Due.same("25 positions", Due.compile(new StreetAutomata(), 0, "a".repeat(25)), NONE);
        Due.same("24 and 176 other bytes", Due.compile(new StreetAutomata(), 0, "a".repeat(24) + "|".repeat(176)), 24);
        Sentences.open("Patterns", "at most 20 parentheses are open at any place.");
        Due.same("19 open", Due.compile(new StreetAutomata(), 0, "(".repeat(19) + ")".repeat(19)), 0);
        Due.same("20 open", Due.compile(new StreetAutomata(), 0, OPEN + CLOSE), 0);
        Due.same("21 open", Due.compile(new StreetAutomata(), 0, "(" + OPEN + CLOSE + ")"), NONE);
        Due.same("20 open, five times", Due.compile(new StreetAutomata(), 0, (OPEN + CLOSE).repeat(5)), 0);
        Due.same("20 open, one of them twice", Due.compile(new StreetAutomata(), 0, OPEN + "a)(b" + CLOSE), 2);
        Due.same("100 one after another", Due.compile(new StreetAutomata(), 0, "()".repeat(100)), 0);
        Due.same("the word inside 20", accepts(OPEN + "a" + CLOSE, "a"), true);
        Due.same("operators at each of 20", accepts(OPEN + "a" + ")*".repeat(20), "aaa"), true);
    }

    private static void positionAutomaton() {
        Sentences.open("Position automaton", "It has a start state 0 and one state for each position.");
        StreetAutomata automata = Due.with("a*", "");
        Due.same("the start state is not the position", automata.transition(0, 0, 0), 1);
        Due.same("but the position follows itself", automata.transition(0, 1, 0), 1);
        Edges.refuses("0 is no position", Edges.NO_INDEX, StreetAutomata::new, x -> x.followPositions(0, 0));
        Sentences.open("Position automaton", "The first positions of a pattern are those with which a word of the pattern can begin");
        Due.text("none", Due.pattern(Due.with("", ""), 0), "first 0 last 0 empty true loops 0 streets>follow states 2 words 0");
        Due.text("one", Due.pattern(Due.with("d", ""), 0),
                "first 2 last 2 empty false loops 0 streets>follow 3>0 states 3 words 0");
        Due.text("one that follows itself", Due.pattern(Due.with("d+", ""), 0),
                "first 2 last 2 empty false loops 1 streets>follow 3>2 states 3 words 1");
        StreetAutomata all = Due.with("(" + "a?".repeat(24) + ")*", "a".repeat(24));
        int every = (1 << 25) - 2;
        Due.same("all of 24 are first", all.firstPositions(0), every);
        Due.same("all of 24 are last", all.lastPositions(0), every);
        Due.same("one of 24 is first", all.firstPositions(1), 1 << 1);
        Due.same("one of 24 is last", all.lastPositions(1), 1 << 24);
        for (int position = 1; position <= 24; position++) {
            Due.same("all of 24 follow " + position, all.followPositions(0, position), every);
            Due.same("one of 24 follows " + position, all.followPositions(1, position), position < 24 ? 1 << position + 1 : 0);
        }
    }

    private static void setsOfPositions() {
        Sentences.open("Position automaton", "Sets of positions are returned as the sum of 2 to the power of the position numbers");
        StreetAutomata automata = Due.with("a|b?".repeat(12) + "*", "(a|)(b|)");
        Due.same("bit 1 is position 1", automata.firstPositions(1), 6);
        Due.same("bit 24 is position 24", automata.lastPositions(0) >> 24, 1);
        for (int slot = 0; slot < 2; slot++) {
            Due.same("bit 0 of the first", automata.firstPositions(slot) & 1, 0);
            Due.same("bit 0 of the last", automata.lastPositions(slot) & 1, 0);
            for (int position = 1; position <= automata.positionCount(slot); position++) {
                Due.same("bit 0 of the follow positions", automata.followPositions(slot, position) & 1, 0);
            }
            for (int state = 0; state < automata.stateCount(slot); state++) {
                Due.same("bit 0 of a state", automata.statePositions(slot, state) & 1, 0);
            }
        }
    }

    private static void statesAreSets() {
        Sentences.open("Deterministic automaton", "Its states are sets of states of the position automaton.");
        for (String text : new String[] {"", "a(b|c)*d", "(ab|ac)*d?", ".*a....", Edges.SIXTY_STATES}) {
            StreetAutomata automata = Due.with(text, "");
            int dead = automata.deadState(0);
            Set<Integer> sets = new HashSet<>();
            for (int state = 1; state < automata.stateCount(0); state++) {
                int set = automata.statePositions(0, state);
                Due.same("without positions in " + text, set == 0, state == dead);
                Due.same("no set twice in " + text, sets.add(set), true);
            }
        }
        Sentences.open("Deterministic automaton", "State 0 is the set that contains only the start state.");
        for (String text : new String[] {"", "a", "a*", ".*", "(ab)*", "(abc?)+"}) {
            StreetAutomata automata = Due.with(text, "");
            Due.same("positions of state 0 of " + text, automata.statePositions(0, 0), 0);
            Due.same("dead state of " + text, automata.deadState(0) == 0, false);
            for (int state = 0; state < automata.stateCount(0); state++) {
                for (int street = 0; street < 6; street++) {
                    Due.same("back into state 0 of " + text, automata.transition(0, state, street) == 0, false);
                }
            }
        }
    }

    private static void statesAreNumberedAsFound() {
        Sentences.open("Deterministic automaton", "The states are numbered in the order in which they are found");
        Due.text("each by its street", transitions("f|e|d|c|b|a"), "123456 777777 777777 777777 777777 777777 777777 777777");
        Due.text("the dead one first", transitions("f"), "111112 111111 111111");
        Due.text("by state before by street", transitions("ff|ea"), "111123 111111 411111 111115 111111 111111");
        Due.text("those of a state found before", transitions("a*b"), "123333 123333 333333 333333");
        Due.text("two", transitions(".*"), "111111 111111");
        Due.text("the last one from the last one", transitions("aab"), "122222 322222 222222 242222 222222");
    }

    private static String transitions(String text) {
        StreetAutomata automata = Due.with(text, "");
        StringBuilder rows = new StringBuilder();
        for (int state = 0; state < automata.stateCount(0); state++) {
            rows.append(state == 0 ? "" : " ");
            for (int street = 0; street < 6; street++) {
                rows.append(automata.transition(0, state, street));
            }
        }
        return rows.toString();
    }

    private static void deadState() {
        Sentences.open("Deterministic automaton", "The empty set is a state too if it is found; it is called the dead state.");
        String[] texts = {"", "f", "a", "a*", "......", ".*", ".+", "(.a)*.?", "(.|a)+", "a*|b*|c*|d*|e*|f*"};
        int[] due = {1, 1, 2, 2, 7, NONE, NONE, 3, NONE, 7};
        for (int index = 0; index < texts.length; index++) {
            StreetAutomata automata = Due.with(texts[index], "");
            int dead = automata.deadState(0);
            Due.same(texts[index], dead, due[index]);
            for (int street = 0; dead != NONE && street < 6; street++) {
                Due.same("it stays dead", automata.transition(0, dead, street), dead);
            }
        }
    }

    private static void acceptingStates() {
        Sentences.open("Deterministic automaton", "A state is accepting if its set contains a last position, or if it contains the start state");
        String[] texts = {"", "a*", "a+", "a|", "a", "ab?", "(ab)*", ".*", "(a|b)*a"};
        String[] due = {"1 0", "1 1 0", "0 1 0", "1 1 0", "0 1 0", "0 1 0 1", "1 0 0 1", "1 1", "0 1 0 0"};
        for (int index = 0; index < texts.length; index++) {
            StreetAutomata automata = Due.with(texts[index], "");
            StringBuilder got = new StringBuilder();
            for (int state = 0; state < automata.stateCount(0); state++) {
                got.append(state == 0 ? "" : " ").append(automata.isAccepting(0, state) ? 1 : 0);
            }
            Due.text(texts[index], got.toString(), due[index]);
        }
    }

    private static void mostStates() {
        Sentences.open("Deterministic automaton", "A pattern whose deterministic automaton has more than 60 states is rejected.");
        String text = Edges.SIXTY_STATES;
        StreetAutomata fewer = Due.with(text.substring(0, text.length() - 1), "");
        Due.same("59", fewer.stateCount(0), 59);
        StreetAutomata automata = Due.with(text, "");
        Due.same("60", automata.stateCount(0), 60);
        Due.same("60, the dead one among them", automata.deadState(0) >= 0, true);
        Due.same("60, no error", automata.patternErrorKind(), 0);
        Due.same("60 and the dead one", Due.compile(automata, 0, text + "e"), NONE);
        Due.same("61, kind", automata.patternErrorKind(), 4);
        Due.same("61, the pattern stays", automata.stateCount(0), 60);
        Due.same("more by one step", Due.compile(automata, 0, "a" + text), NONE);
        Due.same("far more", Due.compile(automata, 1, ".*a" + ".".repeat(22)), NONE);
    }

    private static void error(String text, int kind, int offset) {
        for (int slot = 0; slot < 2; slot++) {
            StreetAutomata automata = new StreetAutomata();
            Due.same("\"" + text + "\"", Due.compile(automata, slot, text), NONE);
            Due.same("kind of \"" + text + "\"", automata.patternErrorKind(), kind);
            Due.same("offset of \"" + text + "\"", automata.patternErrorOffset(), offset);
        }
    }

    private static void firstErrorCounts() {
        Sentences.open("Errors of a pattern", "The first error is reported with its kind and its offset in bytes:");
        String full = "a".repeat(24);
        error(")*", 1, 0);
        error("g)", 1, 0);
        error(full + "g.", 1, 24);
        error(full + ".g", 2, 24);
        error(full + OPEN + "(.", 3, 44);
        error(full + OPEN + ".(", 2, 44);
        error(full + OPEN + "*(", 1, 44);
        error(OPEN + "(" + full + "a", 3, 20);
        error(OPEN + full + "a(", 2, 44);
        error(OPEN + " (", 1, 20);
        error(".*a.....)", 1, 8);
        error(".*a.....(", 1, 9);
        error(".*a....." + OPEN + "(", 3, 28);
        error(".*a" + ".".repeat(23), 2, 25);
    }

    private static void wrongByteOrEnd() {
        Sentences.open("Errors of a pattern", "1, a byte that is not allowed at its place");
        for (int place = 0; place <= 199; place++) {
            error("|".repeat(place) + "*", 1, place);
            error("|".repeat(place) + ")", 1, place);
            error("()".repeat(place / 2) + "g" + "|".repeat(199 - place / 2 * 2), 1, place / 2 * 2);
        }
        Sentences.open("Errors of a pattern", "or the end of the text inside parentheses (the offset is then the length of the text)");
        for (int open = 1; open <= 20; open++) {
            error("(".repeat(open), 1, open);
            error("(".repeat(open) + "a", 1, open + 1);
            error("(".repeat(open) + ")".repeat(open - 1), 1, 2 * open - 1);
            error("(".repeat(open) + "|".repeat(200 - open), 1, 200);
        }
    }

    private static void position25() {
        Sentences.open("Errors of a pattern", "2, the street or dot that would be the 25th position");
        for (String atom : new String[] {"a", "f", "."}) {
            error("a".repeat(24) + atom, 2, 24);
            error(".".repeat(24) + atom, 2, 24);
            error("(a|b)*".repeat(12) + "()" + atom + "bcd", 2, 74);
            error("a*".repeat(24) + atom + "a", 2, 48);
            error("a".repeat(24) + "|".repeat(175) + atom, 2, 199);
        }
        Due.same("the 24th", Due.compile(new StreetAutomata(), 0, "(a|b)*".repeat(12) + "()"), 24);
    }

    private static void parenthesis21() {
        Sentences.open("Errors of a pattern", "3, the opening parenthesis that would be the 21st one open at once");
        error(OPEN + "(", 3, 20);
        error(OPEN + "()", 3, 20);
        error(OPEN + "(" + CLOSE + ")", 3, 20);
        error("(a)" + OPEN + "(", 3, 23);
        error(OPEN + CLOSE + OPEN + "(", 3, 60);
        error(OPEN + ")((", 3, 22);
        error(OPEN + "|".repeat(179) + "(", 3, 199);
        error(OPEN + "a*" + "(", 3, 22);
    }

    private static void state61() {
        Sentences.open("Errors of a pattern", "4, more than 60 states (the offset is the length of the text).");
        error(Edges.SIXTY_STATES + "e", 4, Edges.SIXTY_STATES.length() + 1);
        error(".*a.....", 4, 8);
        error("(.*a.....)", 4, 10);
        error(".*a....." + "|".repeat(192), 4, 200);
        error("(.*a.....)" + "()".repeat(95), 4, 200);
        error(".*a" + ".".repeat(22), 4, 25);
    }
}
