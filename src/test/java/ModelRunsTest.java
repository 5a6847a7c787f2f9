import java.lang.reflect.InvocationTargetException;
import java.lang.reflect.Method;
import java.lang.reflect.Modifier;
import java.util.ArrayList;
import java.util.Arrays;
import java.util.Comparator;
import java.util.List;

/** All promises: long mixed runs of calls, each answer compared with that of PlainModel. */
public final class ModelRunsTest {
    private static final int RUNS = 400;
    private static final int CALLS = 480;

    private static final Method[] FACE = Arrays.stream(StreetAutomata.class.getDeclaredMethods())
            .filter(method -> Modifier.isPublic(method.getModifiers()))
            .sorted(Comparator.comparing(Method::getName)).toArray(Method[]::new);

    private final Texts texts;
    private final List<String> told = new ArrayList<>();
    private final StreetAutomata automata = new StreetAutomata();
    private final PlainModel model = new PlainModel();
    private boolean differed;

    private ModelRunsTest(int run) {
        texts = new Texts(run * 7919L + 17);
    }

    public static void main(String[] args) throws ReflectiveOperationException {
        for (int run = 0; run < RUNS; run++) {
            if (!new ModelRunsTest(run).agrees(run)) {
                System.exit(1);
            }
        }
    }

    private int pick(int below) {
        return texts.pick(below);
    }

    private static Method face(String name) {
        return Arrays.stream(FACE).filter(method -> method.getName().equals(name)).findFirst().orElseThrow();
    }

    private boolean agrees(int run) throws ReflectiveOperationException {
        int calls = 0;
        while (calls < CALLS) {
            int kind = pick(24);
            if (kind < 2) {
                calls += typeSomething();
            } else if (kind < 6) {
                // walkers have no chance to come far if they are not helped
                call(face(kind < 4 ? "step" : kind < 5 ? "addWalker" : "setGate"));
                calls++;
            } else {
                call(FACE[pick(FACE.length)]);
                calls++;
            }
            if (differed) {
                System.out.println("run " + run + ":");
                told.forEach(System.out::println);
                return false;
            }
        }
        return true;
    }

    private int typeSomething() throws ReflectiveOperationException {
        call("truncateInput", 0);
        String text = pick(3) == 0 ? wordOfStreets() : patternText();
        for (int from = 0; from < text.length(); from += 20) {
            Object[] words = new Object[5];
            for (int word = 0; word < 5; word++) {
                int value = 0;
                for (int index = from + 4 * word; index < from + 4 * word + 4; index++) {
                    value = value << 8 | (index < text.length() ? text.charAt(index) : 0);
                }
                words[word] = value;
            }
            call("append", words);
        }
        call("truncateInput", text.length());
        if (pick(2) != 0) {
            call("compile", pick(2));
            call("patternErrorKind");
            call("patternErrorOffset");
        }
        return 5 + (text.length() + 19) / 20;
    }

    private String wordOfStreets() {
        StringBuilder word = new StringBuilder();
        for (int index = pick(6); index > 0; index--) {
            word.append((char) ('a' + pick(pick(4) == 0 ? 6 : 3)));
        }
        if (pick(8) == 0) {
            word.append((char) pick(256));
        }
        return word.toString();
    }

    private String patternText() {
        StringBuilder text = new StringBuilder(pick(8) == 0 ? texts.aboutLimit() : texts.pattern());
        if (pick(6) == 0 && text.length() < 180) {
            String signs = "abc.()|*+? g\u00e1";
            text.insert(pick(text.length() + 1), signs.charAt(pick(signs.length())));
        }
        return text.length() > 200 ? text.substring(0, 200) : text.toString();
    }

    /** What the parameters of a method are: slot, street, state, position, walker, length, index, number. */
    private static String kindsOf(String name) {
        return switch (name) {
            case "addWalker", "compile", "copyPattern" -> "S";
            case "removeWalker", "walkWord", "restartWalker", "walkerSlot", "walkerState", "walkerSteps", "stepsHome",
                    "streetHome" -> "W";
            case "meetingSteps" -> "WW";
            case "step" -> "WT";
            case "setGate" -> "TBB";
            case "setNight" -> "B";
            case "isPassable" -> "T";
            case "streetAt", "followPositions", "isDeterministicAt" -> "SP";
            case "transition" -> "SQT";
            case "isAccepting", "statePositions", "distanceToAccepting", "walkersInState" -> "SQ";
            case "areEquivalentStates" -> "SQQ";
            case "wordCount", "wordCountWithPrefix" -> "SL";
            case "writeWord" -> "SLN";
            case "truncateInput", "reportByte" -> "I";
            case "append" -> "IIIII";
            default -> "S";
        };
    }

    private Object argument(char kind, Object[] before) {
        if (kind == 'B') {
            return pick(4) != 0;
        }
        if (kind == 'N') {
            return (long) pick(pick(2) == 0 ? 3 : 40) - 1;
        }
        if (pick(25) == 0) {
            int[] odd = {-1, 2, 6, 21, 25, 60, Integer.MIN_VALUE, Integer.MAX_VALUE};
            return odd[pick(odd.length)];
        }
        boolean slotIsGood = before.length > 0 && (before[0].equals(0) || before[0].equals(1));
        int slot = slotIsGood ? (int) before[0] : 0;
        return switch (kind) {
            case 'S' -> pick(2);
            case 'T' -> pick(6);
            case 'Q' -> pick(model.stateCount(slot));
            case 'P' -> 1 + pick(model.positionCount(slot) + 1);
            case 'W' -> pick(model.walkerCount() + (model.walkerCount() == 0 ? 1 : 0));
            case 'L' -> pick(pick(3) == 0 ? 21 : 5);
            default -> pick(8);
        };
    }

    private void call(Method method) throws ReflectiveOperationException {
        Object[] arguments = new Object[method.getParameterCount()];
        for (int index = 0; index < arguments.length; index++) {
            char kind = kindsOf(method.getName()).charAt(index);
            arguments[index] = argument(kind, index == 0 ? new Object[0] : arguments);
        }
        call(method.getName(), arguments);
    }

    private void call(String name, Object... arguments) throws ReflectiveOperationException {
        String got = answer(automata, name, arguments);
        String want = answer(model, name, arguments);
        String line = "  " + name + Arrays.toString(arguments) + " answered " + got;
        told.add(got.equals(want) ? line : line + ", due is " + want);
        differed |= !got.equals(want);
    }

    private static String answer(Object whose, String name, Object[] arguments) throws ReflectiveOperationException {
        for (Method method : whose.getClass().getDeclaredMethods()) {
            if (method.getName().equals(name) && method.getParameterCount() == arguments.length) {
                method.setAccessible(true);
                try {
                    return method.invoke(whose, arguments).toString();
                } catch (InvocationTargetException e) {
                    return "throws." + e.getCause().getClass().getSimpleName();
                }
            }
        }
        throw new NoSuchMethodException(name);
    }
}
