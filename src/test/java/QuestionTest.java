import java.util.ArrayList;
import java.util.List;

/** A question changes nothing: twins that were asked or not look the same. */
public final class QuestionTest {
    public static void main(String[] args) {
        for (Edges.Call call : questions()) {
            StreetAutomata automata = Edges.busy();
            String answer = Due.answer(() -> call.on(automata));
            Due.text("a question asked twice", Due.answer(() -> call.on(automata)), answer);
            Due.text("after a question", Due.everything(automata), Due.everything(Edges.busy()));
        }
        Due.end();
    }

    private static List<Edges.Call> questions() {
        List<Edges.Call> all = new ArrayList<>();
        all.add(x -> x.inputLength());
        all.add(x -> x.undoCount());
        all.add(x -> x.patternErrorKind());
        all.add(x -> x.patternErrorOffset());
        for (int slot = 0; slot < 2; slot++) {
            addQuestionsOfSlot(all, slot);
        }
        all.add(x -> x.differenceLength());
        all.add(x -> x.sharedLength());
        all.add(x -> x.reachablePairs());
        all.add(x -> x.isPassable(2));
        all.add(x -> x.isNight());
        all.add(x -> x.walkerCount());
        for (int walker = 0; walker < 4; walker++) {
            int who = walker;
            all.add(x -> x.walkerSlot(who));
            all.add(x -> x.walkerState(who));
            all.add(x -> x.walkerSteps(who));
            all.add(x -> x.stepsHome(who));
            all.add(x -> x.streetHome(who));
            all.add(x -> x.meetingSteps(who, 3));
        }
        all.add(x -> x.totalSteps());
        all.add(x -> x.homeShare());
        all.add(x -> x.reportByte(0));
        all.add(x -> x.reportByte(7));
        return all;
    }

    private static void addQuestionsOfSlot(List<Edges.Call> all, int slot) {
        all.add(x -> x.positionCount(slot));
        all.add(x -> x.streetAt(slot, 1));
        all.add(x -> x.acceptsEmptyWord(slot));
        all.add(x -> x.firstPositions(slot));
        all.add(x -> x.lastPositions(slot));
        all.add(x -> x.followPositions(slot, 1));
        all.add(x -> x.loopCount(slot));
        all.add(x -> x.isDeterministicAt(slot, 1));
        all.add(x -> x.stateCount(slot));
        all.add(x -> x.transition(slot, 1, 1));
        all.add(x -> x.isAccepting(slot, 1));
        all.add(x -> x.statePositions(slot, 1));
        all.add(x -> x.deadState(slot));
        all.add(x -> x.distanceToAccepting(slot, 0));
        all.add(x -> x.areEquivalentStates(slot, 0, 1));
        all.add(x -> x.minimalStateCount(slot));
        all.add(x -> x.acceptsInput(slot));
        all.add(x -> x.wordCount(slot, 20));
        all.add(x -> x.wordCountWithPrefix(slot, 20));
        all.add(x -> x.shortestLength(slot));
        all.add(x -> x.isFinite(slot));
        all.add(x -> x.longestLength(slot));
        all.add(x -> x.isSubset(slot));
        all.add(x -> x.walkersInState(slot, 1));
        all.add(x -> x.meanSetSize(slot));
        all.add(x -> x.writeWord(slot, 3, 1000));
    }
}
