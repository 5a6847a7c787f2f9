import java.util.ArrayList;
import java.util.List;
import java.util.function.Function;

/** A refused call changes nothing, and neither does a question: twins that had such a call or not look the same. */
public final class RefusalTest {
    public static void main(String[] args) {
        for (Function<StreetAutomata, Object> call : refused()) {
            StreetAutomata automata = prepared();
            Due.same("a call that the document refuses throws", Due.answer(() -> call.apply(automata)).startsWith("throws."), true);
            Due.text("after a refused call", Due.everything(automata), Due.everything(prepared()));
        }
        for (Function<StreetAutomata, Object> call : questions()) {
            StreetAutomata automata = prepared();
            String answer = Due.answer(() -> call.apply(automata));
            Due.text("a question asked twice", Due.answer(() -> call.apply(automata)), answer);
            Due.text("after a question", Due.everything(automata), Due.everything(prepared()));
        }
        StreetAutomata fresh = new StreetAutomata();
        Due.answer(() -> fresh.restoreSnapshot());
        Due.text("17: refused", Due.everything(fresh), Due.everything(new StreetAutomata()));
        Due.end();
    }

    /** Six walkers, a closed street, an error, a report, a snapshot, and "abc(" in the buffer. */
    private static StreetAutomata prepared() {
        StreetAutomata automata = new StreetAutomata();
        for (int walker = 0; walker < 6; walker++) {
            automata.addWalker(walker % 2);
        }
        automata.step(0, 0);
        automata.step(3, 0);
        automata.saveSnapshot();
        automata.step(3, 1);
        automata.setGate(2, false, false);
        automata.setGate(4, true, false);
        Due.compile(automata, 0, "ab)");
        automata.writeWord(0, 3, 1);
        Due.type(automata, "abc(");
        return automata;
    }

    private static List<Function<StreetAutomata, Object>> refused() {
        List<Function<StreetAutomata, Object>> all = new ArrayList<>();
        all.add(x -> x.truncateInput(-1));
        all.add(x -> x.truncateInput(5));
        all.add(x -> x.addWalker(0));
        all.add(x -> x.step(1, 2));
        for (int index : new int[] {-1, 6, 60, Integer.MIN_VALUE, Integer.MAX_VALUE}) {
            all.add(x -> x.compile(index));
            all.add(x -> x.copyPattern(index));
            all.add(x -> x.addWalker(index));
            all.add(x -> x.removeWalker(index));
            all.add(x -> x.step(index, 0));
            all.add(x -> x.step(0, index));
            all.add(x -> x.walkWord(index));
            all.add(x -> x.restartWalker(index));
            all.add(x -> x.setGate(index, false, false));
            all.add(x -> x.setGate(index, true, false));
            all.add(x -> x.writeWord(index, 2, 0));
            all.add(x -> x.transition(0, index, 0));
            all.add(x -> x.transition(0, 0, index));
            all.add(x -> x.streetAt(0, index));
            all.add(x -> x.walkerState(index));
            all.add(x -> x.meetingSteps(0, index));
            all.add(x -> x.areEquivalentStates(0, 0, index));
        }
        for (int length : new int[] {-1, 21, Integer.MIN_VALUE, Integer.MAX_VALUE}) {
            all.add(x -> x.writeWord(0, length, 0));
            all.add(x -> x.wordCount(0, length));
            all.add(x -> x.wordCountWithPrefix(0, length));
        }
        return all;
    }

    private static List<Function<StreetAutomata, Object>> questions() {
        List<Function<StreetAutomata, Object>> all = new ArrayList<>();
        all.add(x -> x.inputLength());
        all.add(x -> x.undoCount());
        all.add(x -> x.patternErrorKind());
        all.add(x -> x.patternErrorOffset());
        for (int slot = 0; slot < 2; slot++) {
            addQuestionsOfSlot(all, slot);
        }
        all.add(x -> x.differenceLength());
        all.add(x -> x.sharedLength());
        all.add(x -> x.reachablePairs());
        all.add(x -> x.isPassable(2));
        all.add(x -> x.isNight());
        all.add(x -> x.walkerCount());
        for (int walker = 0; walker < 6; walker++) {
            int who = walker;
            all.add(x -> x.walkerSlot(who));
            all.add(x -> x.walkerState(who));
            all.add(x -> x.walkerSteps(who));
            all.add(x -> x.stepsHome(who));
            all.add(x -> x.streetHome(who));
            all.add(x -> x.meetingSteps(who, 3));
        }
        all.add(x -> x.totalSteps());
        all.add(x -> x.homeShare());
        all.add(x -> x.reportByte(0));
        all.add(x -> x.reportByte(7));
        return all;
    }

    private static void addQuestionsOfSlot(List<Function<StreetAutomata, Object>> all, int slot) {
        all.add(x -> x.positionCount(slot));
        all.add(x -> x.streetAt(slot, 1));
        all.add(x -> x.acceptsEmptyWord(slot));
        all.add(x -> x.firstPositions(slot));
        all.add(x -> x.lastPositions(slot));
        all.add(x -> x.followPositions(slot, 1));
        all.add(x -> x.loopCount(slot));
        all.add(x -> x.isDeterministicAt(slot, 1));
        all.add(x -> x.stateCount(slot));
        all.add(x -> x.transition(slot, 1, 1));
        all.add(x -> x.isAccepting(slot, 1));
        all.add(x -> x.statePositions(slot, 1));
        all.add(x -> x.deadState(slot));
        all.add(x -> x.distanceToAccepting(slot, 0));
        all.add(x -> x.areEquivalentStates(slot, 0, 1));
        all.add(x -> x.minimalStateCount(slot));
        all.add(x -> x.acceptsInput(slot));
        all.add(x -> x.wordCount(slot, 20));
        all.add(x -> x.wordCountWithPrefix(slot, 20));
        all.add(x -> x.shortestLength(slot));
        all.add(x -> x.isFinite(slot));
        all.add(x -> x.longestLength(slot));
        all.add(x -> x.isSubset(slot));
        all.add(x -> x.walkersInState(slot, 1));
        all.add(x -> x.meanSetSize(slot));
        all.add(x -> x.writeWord(slot, 3, 1000));
    }
}
