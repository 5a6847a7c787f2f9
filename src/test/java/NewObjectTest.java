/** A first test; the others follow. */
public final class NewObjectTest {
    public static void main(String[] args) {
        StreetAutomata automata = new StreetAutomata();
        if (automata.inputLength() != 0 || automata.stateCount(0) != 6 || automata.undo() != StreetAutomata.NONE) {
            System.out.println("a new object is not as due");
            System.exit(1);
        }
    }
}
