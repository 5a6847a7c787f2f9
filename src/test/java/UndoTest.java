import java.util.ArrayList;
import java.util.List;
import java.util.NoSuchElementException;
import java.util.function.Consumer;

/** Promises 14 to 17: undo and the snapshot. */
public final class UndoTest {
    private static final int NONE = StreetAutomata.NONE;

    public static void main(String[] args) {
        undoesEachKindOfChange();
        remembersEight();
        doesNotRestore();
        whatIsNoChange();
        saveSnapshot();
        restoreSnapshot();
        Due.end();
    }

    private static StreetAutomata prepared() {
        StreetAutomata automata = new StreetAutomata();
        automata.addWalker(0);
        automata.addWalker(1);
        automata.addWalker(0);
        automata.step(0, 0);
        automata.step(1, 3);
        automata.setGate(4, false, false);
        automata.setGate(5, true, false);
        Due.type(automata, "abcd");
        return automata;
    }

    private static List<Consumer<StreetAutomata>> changes() {
        List<Consumer<StreetAutomata>> all = new ArrayList<>();
        all.add(x -> x.compile(0));
        all.add(x -> x.compile(1));
        all.add(x -> x.copyPattern(0));
        all.add(x -> x.copyPattern(1));
        all.add(x -> x.addWalker(1));
        all.add(x -> x.removeWalker(0));
        all.add(x -> x.removeWalker(2));
        all.add(x -> x.step(0, 1));
        all.add(x -> x.walkWord(1));
        all.add(x -> x.restartWalker(0));
        all.add(x -> x.setGate(0, false, false));
        all.add(x -> x.setGate(0, true, false));
        all.add(x -> x.setGate(4, false, true));
        all.add(x -> x.setNight(true));
        return all;
    }

    private static String bothTimes(StreetAutomata automata) {
        boolean night = automata.isNight();
        String now = Due.world(automata);
        automata.setNight(!night);
        String other = Due.gatesAndWalkers(automata);
        automata.undo();
        return now + other;
    }

    private static void undoesEachKindOfChange() {
        String before = bothTimes(prepared());
        int number = 0;
        for (Consumer<StreetAutomata> change : changes()) {
            StreetAutomata changed = prepared();
            change.accept(changed);
            Due.same("14: change " + number + " changes", bothTimes(changed).equals(before), false);
            StreetAutomata automata = prepared();
            change.accept(automata);
            Due.same("15: change " + number, automata.undoCount(), 8);
            Due.same("14: change " + number, automata.undo(), 7);
            Due.text("14: change " + number, bothTimes(automata), before);
            number++;
        }
    }

    private static void remembersEight() {
        StreetAutomata automata = new StreetAutomata();
        automata.addWalker(0);
        for (int change = 1; change <= 20; change++) {
            Due.same("15: before change " + change, automata.undoCount(), Math.min(change, 8));
            automata.step(0, 1);
        }
        for (int left = 7; left >= 0; left--) {
            Due.same("14: left", automata.undo(), left);
            Due.same("15: left", automata.undoCount(), left);
            Due.same("14: the latest first", automata.walkerSteps(0), 12 + left);
            Due.same("14: total", automata.totalSteps(), 12 + left);
        }
        Due.same("14: nothing is left", automata.undo(), NONE);
        Due.same("14: nothing is left", automata.walkerSteps(0), 12);
        Due.same("15: nothing is left", automata.undoCount(), 0);
        automata.step(0, 1);
        automata.step(0, 1);
        Due.same("14: a change after undo", automata.undo(), 1);
        automata.setNight(true);
        Due.same("14: what was undone is gone", automata.undo(), 1);
        Due.same("14: first one", automata.undo(), 0);
        Due.same("14: first one", automata.walkerSteps(0), 12);
    }

    private static void doesNotRestore() {
        StreetAutomata automata = new StreetAutomata();
        Due.compile(automata, 0, "ab");
        Due.type(automata, "cde");
        Due.same("14: undo", automata.undo(), 0);
        Due.same("14: keeps the input", automata.inputLength(), 3);
        Due.compile(automata, 0, "ab(");
        automata.setNight(true);
        automata.writeWord(0, 2, 0);
        automata.undo();
        Due.same("14: keeps the error", automata.patternErrorKind() * 10 + automata.patternErrorOffset(), 13);
        Due.text("14: keeps the report", Due.report(automata), "ad");
        automata.addWalker(0);
        automata.saveSnapshot();
        automata.undo();
        Due.same("14: keeps the snapshot", automata.restoreSnapshot(), 1);
    }

    private static void whatIsNoChange() {
        StreetAutomata automata = prepared();
        int count = automata.undoCount();
        Due.compile(automata, 0, "a)");
        automata.saveSnapshot();
        automata.writeDifference();
        automata.writeWord(0, 2, 0);
        automata.writeSharedWord();
        automata.append(0, 0, 0, 0, 0);
        automata.truncateInput(0);
        Due.same("15: no changes", automata.undoCount(), count);
        automata.setNight(false);
        automata.setGate(4, false, false);
        Due.same("15: changes that alter nothing count", automata.undoCount(), 8);
    }

    private static void saveSnapshot() {
        StreetAutomata automata = prepared();
        int count = automata.undoCount();
        Due.same("16: walkers", automata.saveSnapshot(), 3);
        Due.same("16: is no change", automata.undoCount(), count);
        automata.removeWalker(0);
        Due.same("16: in place of the earlier one", automata.saveSnapshot(), 2);
        automata.addWalker(0);
        automata.addWalker(0);
        Due.same("17: the later one", automata.restoreSnapshot(), 2);
        Due.same("16: of a new object", new StreetAutomata().saveSnapshot(), 0);
    }

    private static void restoreSnapshot() {
        int number = 0;
        String before = bothTimes(prepared());
        for (Consumer<StreetAutomata> change : changes()) {
            StreetAutomata automata = prepared();
            automata.saveSnapshot();
            change.accept(automata);
            Due.same("17: change " + number, automata.restoreSnapshot(), 3);
            Due.same("17: nothing can be undone", automata.undoCount(), 0);
            Due.same("17: nothing can be undone", automata.undo(), NONE);
            Due.text("17: change " + number, bothTimes(automata), before);
            change.accept(prepared());
            Due.type(automata, "ab");
            change.accept(automata);
            Due.same("17: it stays saved", automata.restoreSnapshot(), 3);
            Due.text("17: it stays saved", bothTimes(automata), before);
            number++;
        }
        StreetAutomata automata = prepared();
        Due.refuses("17: none", NoSuchElementException.class, () -> automata.restoreSnapshot());
        Due.same("17: refused", automata.undoCount(), 7);
        automata.saveSnapshot();
        Due.compile(automata, 0, "a(");
        automata.writeWord(1, 2, 0);
        Due.type(automata, "abc");
        automata.restoreSnapshot();
        Due.same("17: keeps the input", automata.inputLength(), 3);
        Due.same("17: keeps the error", automata.patternErrorOffset(), 2);
        Due.text("17: keeps the report", Due.report(automata), "ab");
        automata.step(0, 0);
        automata.restoreSnapshot();
        Due.same("17: total", automata.totalSteps(), 2);
    }
}
