import java.util.ArrayList;
import java.util.List;
import java.util.NoSuchElementException;

/** The terms Walkers and Changes and undo, the constant, and the 512 calls of an object, by their edges. */
public final class ChangeTermsTest {
    private static final int NONE = StreetAutomata.NONE;
    private static final int CALLS = 512;

    public static void main(String[] args) {
        mostWalkers();
        walkersThatLeave();
        walkersOfTwoPatterns();
        walkersBegin();
        walkersAreHome();
        newPatternsOfWalkers();
        whatIsAChange();
        whatIsNoChange();
        latestEightChanges();
        undoRestores();
        undoDoesNotRestore();
        refusedCallsChangeNothing();
        firstExceptionThatApplies();
        eachIndexIsChecked();
        none();
        lastCalls();
        Sentences.allOpened("Walkers");
        Sentences.allOpened("Changes and undo");
        Due.end();
    }

    private static void mostWalkers() {
        Sentences.open("Walkers", "There are at most 6 walkers, numbered from 0 in the order in which they came");
        StreetAutomata automata = new StreetAutomata();
        for (int walker = 0; walker < 6; walker++) {
            Due.same("number", automata.addWalker(walker / 3), walker);
        }
        Due.text("order", Due.gatesAndWalkers(automata), "false0 oooooo 0/0/0 0/0/0 0/0/0 1/0/0 1/0/0 1/0/0");
        Edges.refuses("a 7th", IllegalStateException.class, () -> Edges.walkers(6), x -> x.addWalker(0));
        automata.removeWalker(0);
        Due.same("after one left", automata.addWalker(0), 5);
        Due.refuses("a 7th again", IllegalStateException.class, () -> automata.addWalker(0));
    }

    private static void walkersThatLeave() {
        Sentences.open("Walkers", "if a walker leaves, the walkers with greater numbers get numbers that are 1 less.");
        for (int leaving = 0; leaving < 6; leaving++) {
            StreetAutomata automata = Edges.walkers(6);
            for (int walker = 0; walker < 6; walker++) {
                Due.type(automata, "d".repeat(walker));
                automata.walkWord(walker);
            }
            automata.removeWalker(leaving);
            Due.same("walkers", automata.walkerCount(), 5);
            for (int walker = 0; walker < 5; walker++) {
                int before = walker < leaving ? walker : walker + 1;
                Due.same("steps of " + walker, automata.walkerSteps(walker), before);
                Due.same("slot of " + walker, automata.walkerSlot(walker), before % 2);
                Due.same("state of " + walker, automata.walkerState(walker), before == 0 ? 0 : before == 1 ? 3 : 2);
            }
            Due.refuses("the greatest number", Edges.NO_INDEX, () -> automata.walkerSteps(5));
        }
    }

    private static void walkersOfTwoPatterns() {
        Sentences.open("Walkers", "A walker walks in one of the two patterns; it is in a state of the deterministic automaton");
        StreetAutomata automata = Due.with("d*", "a");
        automata.addWalker(0);
        automata.addWalker(1);
        for (int walker = 0; walker < 2; walker++) {
            for (int step = 1; step <= 3; step++) {
                int due = automata.transition(walker, automata.walkerState(walker), 3);
                Due.same("state of " + walker, automata.step(walker, 3), due);
                Due.same("steps of " + walker, automata.walkerSteps(walker), step);
            }
        }
    }

    private static void walkersBegin() {
        Sentences.open("Walkers", "It begins in state 0 with 0 steps.");
        StreetAutomata automata = Edges.walkers(6);
        for (int walker = 0; walker < 6; walker++) {
            automata.step(walker, 0);
        }
        for (int walker = 0; walker < 6; walker++) {
            automata.removeWalker(0);
        }
        for (int walker = 0; walker < 6; walker++) {
            automata.addWalker(1);
            Due.same("state", automata.walkerState(walker), 0);
            Due.same("steps", automata.walkerSteps(walker), 0);
        }
    }

    private static void walkersAreHome() {
        Sentences.open("Walkers", "A walker is home if its state is accepting.");
        for (String text : new String[] {"", "a*", "a+", "(ab)*", "a", ".*"}) {
            StreetAutomata automata = Due.with(text, "b");
            automata.addWalker(0);
            for (int step = 0; step < 4; step++) {
                boolean isHome = automata.isAccepting(0, automata.walkerState(0));
                Due.same("stepsHome in " + text, automata.stepsHome(0) == 0, isHome);
                Due.text("homeShare in " + text, "" + automata.homeShare(), isHome ? "1.0" : "0.0");
                automata.step(0, 0);
            }
        }
    }

    private static StreetAutomata walked() {
        StreetAutomata automata = Edges.walkers(4);
        for (int walker = 0; walker < 4; walker++) {
            automata.step(walker, 0);
        }
        return automata;
    }

    private static void newPatternsOfWalkers() {
        Sentences.open("Walkers", "makes all walkers in the slot that gets the pattern begin anew in state 0 with 0 steps");
        String zeroAnew = "false4 oooooo 0/0/0 1/1/1 0/0/0 1/1/1";
        String oneAnew = "false4 oooooo 0/1/1 1/0/0 0/1/1 1/0/0";
        StreetAutomata automata = walked();
        Due.compile(automata, 0, "");
        Due.text("compile 0", Due.gatesAndWalkers(automata), zeroAnew);
        automata = walked();
        Due.compile(automata, 1, "f");
        Due.text("compile 1", Due.gatesAndWalkers(automata), oneAnew);
        automata = walked();
        automata.copyPattern(1);
        Due.text("copy into 0", Due.gatesAndWalkers(automata), zeroAnew);
        automata = walked();
        automata.copyPattern(0);
        Due.text("copy into 1", Due.gatesAndWalkers(automata), oneAnew);
        automata = walked();
        Due.compile(automata, 0, "a(b|c)*d");
        Due.text("the same pattern as before", Due.gatesAndWalkers(automata), zeroAnew);
        for (String wrong : new String[] {"*", "a".repeat(25), "(".repeat(21), ".*a....."}) {
            automata = walked();
            Due.compile(automata, 0, wrong);
            Due.text("an error", Due.gatesAndWalkers(automata), Due.gatesAndWalkers(walked()));
        }
    }

    private static List<Edges.Call> changes() {
        List<Edges.Call> all = new ArrayList<>();
        for (int slot = 0; slot < 2; slot++) {
            int into = slot;
            all.add(x -> x.compile(into));
            all.add(x -> x.copyPattern(into));
            all.add(x -> x.addWalker(into));
            all.add(x -> x.removeWalker(into));
            all.add(x -> x.step(into, 0));
            all.add(x -> x.walkWord(into));
            all.add(x -> x.restartWalker(into));
            all.add(x -> x.setGate(0, into == 0, true));
            all.add(x -> x.setGate(5, into == 0, false));
            all.add(x -> x.setNight(into == 0));
        }
        return all;
    }

    private static void whatIsAChange() {
        Sentences.open("Changes and undo", "The methods from `compile` to `setNight` are changes.");
        int number = 0;
        for (Edges.Call change : changes()) {
            StreetAutomata automata = Edges.walkers(4);
            String before = Due.bothTimes(automata);
            automata.truncateInput(0);
            Due.type(automata, "ad");
            change.on(automata);
            Due.same("undoCount after change " + number, automata.undoCount(), 5);
            Due.same("undo of change " + number, automata.undo(), 4);
            Due.text("change " + number + " undone", Due.bothTimes(automata), before);
            number++;
        }
    }

    private static void whatIsNoChange() {
        Sentences.open("Changes and undo", "The methods from `compile` to `setNight` are changes.");
        StreetAutomata automata = Edges.walkers(2);
        automata.append(0, 0, 0, 0, 0);
        automata.truncateInput(0);
        automata.saveSnapshot();
        automata.writeWord(0, 2, 0);
        automata.writeDifference();
        automata.writeSharedWord();
        automata.acceptsInput(0);
        automata.stepsHome(0);
        Due.same("undoCount", automata.undoCount(), 2);
        Due.same("undo", automata.undo(), 1);
        Due.same("undo is none itself", automata.undo(), 0);
        automata.restoreSnapshot();
        Due.same("restoreSnapshot", automata.undoCount(), 0);
    }

    private static void latestEightChanges() {
        Sentences.open("Changes and undo", "Each call of a change that neither throws an exception nor reports a pattern error can be undone");
        for (int count = 0; count <= 20; count++) {
            StreetAutomata automata = Edges.walkers(1);
            for (int change = 0; change < count; change++) {
                automata.step(0, 1);
                Due.answer(() -> automata.step(0, 6));
                Due.answer(() -> automata.removeWalker(1));
                Due.compile(automata, 0, ")");
            }
            int known = Math.min(count + 1, 8);
            Due.same("after " + count + " steps", automata.undoCount(), known);
            for (int left = known - 1; left >= 0; left--) {
                Due.same("left of " + count, automata.undo(), left);
                Due.same("the latest first of " + count, automata.totalSteps(), Math.max(count - known + left, 0));
            }
            Due.same("no more of " + count, automata.undo(), NONE);
            Due.same("what stays of " + count, automata.walkerCount(), count < 8 ? 0 : 1);
        }
    }

    private static void undoRestores() {
        Sentences.open("Changes and undo", "Undoing restores everything except the input buffer, the pattern error, the report and the snapshot.");
        StreetAutomata automata = Edges.walkers(6);
        automata.step(2, 0);
        automata.setGate(1, false, false);
        automata.setGate(2, true, false);
        String before = Due.bothTimes(automata);
        Due.compile(automata, 0, "f.");
        Due.compile(automata, 1, "e*");
        automata.removeWalker(0);
        automata.step(1, 4);
        automata.setGate(1, false, true);
        automata.setGate(4, true, false);
        automata.setNight(true);
        for (int left = 7; left >= 1; left--) {
            Due.same("left", automata.undo(), left);
        }
        Due.text("patterns, walkers, steps, gates and the time", Due.bothTimes(automata), before);
    }

    private static void undoDoesNotRestore() {
        Sentences.open("Changes and undo", "except the input buffer, the pattern error, the report and the snapshot.");
        StreetAutomata automata = Edges.walkers(1);
        automata.saveSnapshot();
        Due.compile(automata, 0, "ab");
        Due.compile(automata, 0, "a(");
        automata.writeWord(0, 2, 0);
        automata.addWalker(0);
        automata.saveSnapshot();
        Due.type(automata, "abc");
        automata.undo();
        automata.undo();
        Due.same("the input", automata.inputLength(), 3);
        Due.same("the kind of the error", automata.patternErrorKind(), 1);
        Due.same("the offset of the error", automata.patternErrorOffset(), 2);
        Due.text("the report", Due.report(automata), "ab");
        Due.same("what stands now", automata.walkerCount(), 1);
        Due.same("the snapshot", automata.restoreSnapshot(), 2);
        Due.compile(automata, 0, "c");
        Due.same("the error of a call that is undone", automata.undo() * 10 + automata.patternErrorKind(), 0);
    }

    private static void refusedCallsChangeNothing() {
        Sentences.open("Changes and undo", "A call that throws an exception changes nothing.");
        Edges.refuses("truncateInput", Edges.NO_LENGTH, Edges::busy, x -> x.truncateInput(6));
        Edges.refuses("compile", Edges.NO_INDEX, Edges::busy, x -> x.compile(2));
        Edges.refuses("addWalker", IllegalStateException.class, () -> Edges.walkers(6), x -> x.addWalker(1));
        Edges.refuses("step", IllegalStateException.class, Edges::busy, x -> x.step(3, 2));
        Edges.refuses("walkWord", Edges.NO_INDEX, Edges::busy, x -> x.walkWord(4));
        Edges.refuses("setGate", Edges.NO_INDEX, Edges::busy, x -> x.setGate(6, true, true));
        Edges.refuses("restoreSnapshot", NoSuchElementException.class, () -> Edges.walkers(3), x -> x.restoreSnapshot());
        Edges.refuses("writeWord", Edges.NO_LENGTH, Edges::busy, x -> x.writeWord(1, 21, 0));
    }

    private static StreetAutomata closed() {
        StreetAutomata automata = Edges.walkers(6);
        automata.setGate(0, false, false);
        return automata;
    }

    private static void firstExceptionThatApplies() {
        Sentences.open("Changes and undo", "If several exceptions apply to a call, the one that is listed first is thrown.");
        for (int beyond : new int[] {-1, 6, Integer.MIN_VALUE, Integer.MAX_VALUE}) {
            Edges.refuses("no slot, 6 walkers", Edges.NO_INDEX, ChangeTermsTest::closed, x -> x.addWalker(beyond));
            Edges.refuses("no walker, closed", Edges.NO_INDEX, ChangeTermsTest::closed, x -> x.step(beyond, 0));
            Edges.refuses("no slot, no length", Edges.NO_INDEX, ChangeTermsTest::closed, x -> x.wordCount(beyond, -1));
            Edges.refuses("no slot, no length", Edges.NO_INDEX, ChangeTermsTest::closed, x -> x.wordCountWithPrefix(beyond, 21));
            Edges.refuses("no slot, no length", Edges.NO_INDEX, ChangeTermsTest::closed, x -> x.writeWord(beyond, 21, -1));
        }
    }

    private static void eachIndexIsChecked() {
        Sentences.open("Changes and undo", "an index of a slot, street, state, position or walker that does not exist causes an IndexOutOfBoundsException");
        int[] beyond = {-1, 60, Integer.MIN_VALUE, Integer.MAX_VALUE};
        for (int one : beyond) {
            for (int two : beyond) {
                Edges.refuses("slot, position", Edges.NO_INDEX, Edges::busy, x -> x.streetAt(one, two));
                Edges.refuses("slot, position", Edges.NO_INDEX, Edges::busy, x -> x.followPositions(one, two));
                Edges.refuses("slot, position", Edges.NO_INDEX, Edges::busy, x -> x.isDeterministicAt(one, two));
                Edges.refuses("slot, state", Edges.NO_INDEX, Edges::busy, x -> x.isAccepting(one, two));
                Edges.refuses("slot, state", Edges.NO_INDEX, Edges::busy, x -> x.statePositions(one, two));
                Edges.refuses("slot, state", Edges.NO_INDEX, Edges::busy, x -> x.distanceToAccepting(one, two));
                Edges.refuses("slot, state", Edges.NO_INDEX, Edges::busy, x -> x.walkersInState(one, two));
                Edges.refuses("slot, state, street", Edges.NO_INDEX, Edges::busy, x -> x.transition(one, two, one));
                Edges.refuses("state, street", Edges.NO_INDEX, Edges::busy, x -> x.transition(1, one, two));
                Edges.refuses("slot, state, other", Edges.NO_INDEX, Edges::busy, x -> x.areEquivalentStates(one, two, one));
                Edges.refuses("state, other", Edges.NO_INDEX, Edges::busy, x -> x.areEquivalentStates(0, one, two));
                Edges.refuses("walker, street", Edges.NO_INDEX, Edges::busy, x -> x.step(one, two));
                Edges.refuses("walker, other", Edges.NO_INDEX, Edges::busy, x -> x.meetingSteps(one, two));
            }
        }
    }

    private static void none() {
        Sentences.open("Changes and undo", "The constants: `NONE = -1`: Returned if there is no such value.");
        Due.same("the constant", StreetAutomata.NONE, -1);
        StreetAutomata automata = Due.with("a.", "a.");
        automata.undo();
        automata.undo();
        Due.same("undo", automata.undo(), -1);
        Due.same("patternErrorOffset", automata.patternErrorOffset(), -1);
        Due.same("reportByte", automata.reportByte(0), -1);
        Due.same("longestLength", automata.longestLength(0), -1);
        Due.same("writeWord", automata.writeWord(0, 0, 0), -1);
        Due.same("distanceToAccepting", automata.distanceToAccepting(0, automata.deadState(0)), -1);
        automata.addWalker(0);
        automata.step(0, 5);
        Due.same("stepsHome", automata.stepsHome(0), -1);
        Due.same("streetHome", automata.streetHome(0), -1);
        Due.same("meetingSteps", automata.meetingSteps(0, 0), -1);
        Due.compile(automata, 0, ".+");
        Due.compile(automata, 1, "");
        Due.same("streetAt", automata.streetAt(0, 1), -1);
        Due.same("deadState", automata.deadState(0), -1);
        Due.same("sharedLength", automata.sharedLength(), -1);
        Due.same("writeSharedWord", automata.writeSharedWord(), -1);
        automata.copyPattern(0);
        Due.same("differenceLength", automata.differenceLength(), -1);
        Due.same("writeDifference", automata.writeDifference(), -1);
        Due.same("compile", Due.compile(automata, 0, ")"), -1);
        Due.type(automata, "a".repeat(181));
        Due.same("append", automata.append(0, 0, 0, 0, 0), -1);
    }

    private static void lastCalls() {
        Sentences.open("What it is", "An object is used for at most 512 calls after it has been made");
        StreetAutomata steps = new StreetAutomata();
        steps.addWalker(0);
        for (int call = 2; call < CALLS; call++) {
            steps.step(0, 0);
        }
        Due.same("the 512th call after 510 steps", steps.totalSteps(), 510);
        StreetAutomata patterns = new StreetAutomata();
        for (int call = 1; call < CALLS; call++) {
            patterns.compile(call % 2);
        }
        Due.same("the 512th call after 511 patterns", patterns.undo(), 7);
        StreetAutomata words = new StreetAutomata();
        words.addWalker(1);
        int calls = 1;
        int due = 0;
        for (; calls + 12 <= CALLS; calls += 11) {
            for (int times = 0; times < 10; times++) {
                words.append(0x61626364, 0x65666162, 0x63646566, 0x61626364, 0x65666162);
            }
            due += words.walkWord(0);
        }
        Due.same("200 steps in 11 calls, again and again", due, (calls - 1) / 11 * 200);
        Due.same("all of them", words.totalSteps(), due);
    }
}
