import java.util.NoSuchElementException;

/** Promises 14 to 17, sentence by sentence at their edges: undo and the snapshot. */
public final class UndoBoundsTest {
    private static final int NONE = StreetAutomata.NONE;
    private static final Class<NoSuchElementException> NO_SNAPSHOT = NoSuchElementException.class;

    public static void main(String[] args) {
        undoTakesTheLatest();
        undoReturns();
        undoCount();
        snapshotOfEverything();
        snapshotInPlaceOfAnEarlierOne();
        snapshotIsNoChange();
        saveReturns();
        restoreStaysSaved();
        restoreForgetsChanges();
        restoreReturns();
        restoreRefuses();
        Sentences.allOpened(14, 17);
        Due.end();
    }

    /** A walker with some steps along a, each of them a change. */
    private static StreetAutomata stepped(int steps) {
        StreetAutomata automata = Edges.walkers(1);
        automata.saveSnapshot();
        automata.restoreSnapshot();
        for (int step = 0; step < steps; step++) {
            automata.step(0, 0);
        }
        return automata;
    }

    private static void undoTakesTheLatest() {
        Sentences.open(14, "Undoes the latest change that has not been undone.");
        for (int steps = 1; steps <= 20; steps++) {
            StreetAutomata automata = stepped(steps);
            for (int undone = 1; undone <= Math.min(steps, 8); undone++) {
                automata.undo();
                Due.same(undone + " of " + steps, automata.walkerSteps(0), steps - undone);
            }
        }
        StreetAutomata automata = stepped(5);
        automata.undo();
        automata.undo();
        automata.setNight(true);
        automata.undo();
        Due.same("the new change", automata.isNight(), false);
        Due.same("not yet an older one", automata.walkerSteps(0), 3);
        automata.undo();
        Due.same("then the one before those that were undone", automata.walkerSteps(0), 2);
        StreetAutomata ring = stepped(8);
        for (int round = 0; round < 20; round++) {
            ring.undo();
            ring.step(0, 1);
            Due.same("undone and done again", ring.undoCount(), 8);
        }
        for (int left = 7; left >= 0; left--) {
            ring.undo();
            Due.same("once around", ring.walkerSteps(0), left);
        }
    }

    private static void undoReturns() {
        Sentences.open(14, "Returns the number of changes that can still be undone, or NONE if there was nothing to undo.");
        Due.same("a new object", new StreetAutomata().undo(), NONE);
        for (int steps = 0; steps <= 20; steps++) {
            StreetAutomata automata = stepped(steps);
            for (int left = Math.min(steps, 8) - 1; left >= 0; left--) {
                Due.same("of " + steps, automata.undo(), left);
            }
            int kept = Math.max(steps - 8, 0);
            Due.same("nothing of " + steps, automata.undo(), NONE);
            Due.same("nothing again", automata.undo(), NONE);
            Due.same("it changes nothing", automata.walkerSteps(0), kept);
            automata.step(0, 0);
            Due.same("one change afterwards", automata.undo(), 0);
            Due.same("it is undone", automata.walkerSteps(0), kept);
        }
    }

    private static void undoCount() {
        Sentences.open(15, "Returns the number of changes that can be undone.");
        Due.same("a new object", new StreetAutomata().undoCount(), 0);
        for (int steps = 0; steps <= 20; steps++) {
            StreetAutomata automata = stepped(steps);
            Due.same("after " + steps, automata.undoCount(), Math.min(steps, 8));
            automata.undo();
            Due.same("after " + steps + " and undo", automata.undoCount(), Math.max(Math.min(steps, 8) - 1, 0));
        }
        StreetAutomata refused = stepped(3);
        Due.answer(() -> refused.step(0, 6));
        Due.answer(() -> refused.step(1, 0));
        Due.compile(refused, 0, "(");
        Due.same("refused calls and pattern errors do not count", refused.undoCount(), 3);
    }

    /** Everything that undo restores, in another state than that of a busy object. */
    private static void changeEverything(StreetAutomata automata) {
        Due.compile(automata, 0, "ab");
        Due.compile(automata, 1, "f?.");
        automata.removeWalker(0);
        automata.addWalker(0);
        automata.addWalker(1);
        for (int walker = 0; walker < automata.walkerCount(); walker++) {
            automata.step(walker, 1);
        }
        for (int street = 0; street < 6; street++) {
            automata.setGate(street, street % 2 == 0, false);
        }
        automata.setNight(true);
    }

    private static void snapshotOfEverything() {
        Sentences.open(16, "Saves a snapshot of everything that undo restores");
        String before = Due.bothTimes(Edges.busy());
        StreetAutomata automata = Edges.busy();
        automata.saveSnapshot();
        changeEverything(automata);
        automata.restoreSnapshot();
        Due.text("by day", Due.bothTimes(automata), before);
        StreetAutomata fresh = new StreetAutomata();
        fresh.saveSnapshot();
        fresh.addWalker(0);
        changeEverything(fresh);
        fresh.restoreSnapshot();
        Due.text("of a new object", Due.bothTimes(fresh), Due.bothTimes(new StreetAutomata()));
        StreetAutomata night = Edges.busy();
        changeEverything(night);
        String later = Due.bothTimes(night);
        night.saveSnapshot();
        night.setNight(false);
        for (int walker = 0; walker < 5; walker++) {
            night.removeWalker(0);
        }
        night.restoreSnapshot();
        Due.text("by night", Due.bothTimes(night), later);
    }

    private static void snapshotInPlaceOfAnEarlierOne() {
        Sentences.open(16, "in place of an earlier one.");
        StreetAutomata automata = new StreetAutomata();
        for (int walkers = 0; walkers <= 6; walkers++) {
            automata.saveSnapshot();
            automata.setNight(walkers % 2 == 0);
            automata.restoreSnapshot();
            Due.same("walkers of the latest one", automata.walkerCount(), walkers);
            if (walkers < 6) {
                automata.addWalker(0);
            }
        }
        automata.removeWalker(0);
        automata.saveSnapshot();
        automata.addWalker(1);
        automata.restoreSnapshot();
        Due.same("a smaller one", automata.walkerCount(), 5);
    }

    private static void snapshotIsNoChange() {
        Sentences.open(16, "This is not a change.");
        for (int steps = 0; steps <= 10; steps++) {
            StreetAutomata automata = stepped(steps);
            automata.saveSnapshot();
            Due.same("undoCount after " + steps, automata.undoCount(), Math.min(steps, 8));
            Due.same("undo after " + steps, automata.undo(), Math.min(steps, 8) - 1);
            Due.same("steps after " + steps, automata.walkerSteps(0), Math.max(steps - 1, 0));
            automata.restoreSnapshot();
            Due.same("undo keeps the snapshot", automata.walkerSteps(0), steps);
        }
    }

    private static void saveReturns() {
        Sentences.open(16, "Returns the number of walkers.");
        for (int walkers = 0; walkers <= 6; walkers++) {
            Due.same(walkers + " walkers", Edges.walkers(walkers).saveSnapshot(), walkers);
        }
    }

    private static void restoreStaysSaved() {
        Sentences.open(17, "Restores the snapshot, which stays saved.");
        StreetAutomata automata = Edges.busy();
        automata.saveSnapshot();
        String due = Due.bothTimes(Edges.busy());
        for (int times = 1; times <= 3; times++) {
            changeEverything(automata);
            automata.restoreSnapshot();
            Due.text("restored " + times + " times", Due.world(automata), due.substring(0, due.lastIndexOf(" | ")));
        }
        automata.restoreSnapshot();
        Due.text("without a change between", Due.bothTimes(automata), due);
        StreetAutomata kept = Edges.busy();
        kept.saveSnapshot();
        kept.truncateInput(0);
        Due.compile(kept, 0, "a(");
        kept.writeWord(0, 4, 3);
        Due.type(kept, "abc");
        kept.restoreSnapshot();
        Due.same("the input is not restored", kept.inputLength(), 3);
        Due.same("the error is not restored", kept.patternErrorOffset(), 2);
        Due.text("the report is not restored", Due.report(kept), "accd");
    }

    private static void restoreForgetsChanges() {
        Sentences.open(17, "Nothing can be undone afterwards.");
        for (int steps = 0; steps <= 10; steps++) {
            StreetAutomata automata = stepped(steps);
            automata.saveSnapshot();
            automata.step(0, 0);
            automata.restoreSnapshot();
            Due.same("undoCount", automata.undoCount(), 0);
            Due.same("undo", automata.undo(), NONE);
            Due.same("steps", automata.walkerSteps(0), steps);
            automata.step(0, 1);
            Due.same("a change afterwards", automata.undo(), 0);
            Due.same("it is undone", automata.walkerSteps(0), steps);
            Due.same("no other one", automata.undo(), NONE);
        }
    }

    private static void restoreReturns() {
        Sentences.open(17, "Returns the number of walkers of the snapshot.");
        for (int walkers = 0; walkers <= 6; walkers++) {
            StreetAutomata automata = Edges.walkers(walkers);
            automata.saveSnapshot();
            for (int more = walkers; more < 6; more++) {
                automata.addWalker(0);
            }
            Due.same(walkers + ", restored from 6", automata.restoreSnapshot(), walkers);
            for (int left = walkers; left > 0; left--) {
                automata.removeWalker(0);
            }
            Due.same(walkers + ", restored from none", automata.restoreSnapshot(), walkers);
        }
    }

    private static void restoreRefuses() {
        Sentences.open(17, "Throws `NoSuchElementException` if no snapshot was saved");
        Edges.refuses("a new object", NO_SNAPSHOT, StreetAutomata::new, x -> x.restoreSnapshot());
        Edges.refuses("with walkers and changes", NO_SNAPSHOT, () -> Edges.walkers(6), x -> x.restoreSnapshot());
        Edges.refuses("with undone changes", NO_SNAPSHOT, UndoBoundsTest::undone, x -> x.restoreSnapshot());
    }

    private static StreetAutomata undone() {
        StreetAutomata automata = Edges.walkers(2);
        automata.undo();
        return automata;
    }
}
