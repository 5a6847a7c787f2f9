import java.io.IOException;
import java.lang.reflect.Constructor;
import java.lang.reflect.Field;
import java.lang.reflect.Method;
import java.lang.reflect.Modifier;
import java.nio.file.Files;
import java.nio.file.Path;
import java.util.Arrays;
import java.util.Set;
import java.util.TreeSet;
import java.util.regex.Matcher;
import java.util.regex.Pattern;

/** The face is the document's and no more, and the source keeps to those rules of LANGUAGE.md that a text shows. */
public final class FaceTest {
    private static final Path DOCUMENT = Path.of("../shared/DOC.md");
    private static final Path SOURCE = Path.of("src/main/java/StreetAutomata.java");

    public static void main(String[] args) throws IOException {
        methods();
        membersThatAreSeen();
        fields();
        source();
        Due.end();
    }

    private static String plain(String signature) {
        return signature.replaceAll("\\s+", " ").replaceAll("java\\.(lang|util)\\.", "").replace(", ", ",").trim();
    }

    /** The lines of the face in the document, without the names of the parameters. */
    private static Set<String> dueMethods() throws IOException {
        String document = Files.readString(DOCUMENT);
        String face = document.substring(document.indexOf("```java"), document.indexOf("## Terms"));
        Set<String> due = new TreeSet<>();
        Matcher line = Pattern.compile("public (\\w+) (\\w+)\\((.*?)\\)( throws [^;]*)?;").matcher(face);
        while (line.find()) {
            String types = line.group(3).replaceAll("(\\w+) \\w+", "$1");
            String refusals = line.group(4) == null ? "" : line.group(4);
            due.add(plain("public " + line.group(1) + " " + line.group(2) + "(" + types + ")" + refusals));
        }
        return due;
    }

    private static void methods() throws IOException {
        Set<String> got = new TreeSet<>();
        for (Method method : StreetAutomata.class.getDeclaredMethods()) {
            if (Modifier.isPublic(method.getModifiers())) {
                got.add(plain(method.toGenericString().replace("StreetAutomata.", "")));
            }
        }
        Due.same("the number of methods", got.size(), 61);
        Due.text("the face", String.join("\n", got), String.join("\n", dueMethods()));
    }

    private static boolean isHidden(int modifiers) {
        return Modifier.isPrivate(modifiers);
    }

    private static void membersThatAreSeen() {
        Class<?> face = StreetAutomata.class;
        Due.same("public and final", face.getModifiers(), Modifier.PUBLIC | Modifier.FINAL);
        Set<String> names = new TreeSet<>();
        for (Method method : face.getDeclaredMethods()) {
            if (Modifier.isPublic(method.getModifiers())) {
                names.add(method.getName());
            }
        }
        for (Method method : face.getDeclaredMethods()) {
            boolean hidden = isHidden(method.getModifiers());
            Due.same(method + " is public or private", hidden || Modifier.isPublic(method.getModifiers()), true);
            Due.same(method + " has a name of its own", hidden && names.contains(method.getName()), false);
        }
        Constructor<?>[] constructors = face.getDeclaredConstructors();
        Due.same("one constructor", constructors.length, 1);
        Due.same("a public one", constructors[0].getModifiers(), Modifier.PUBLIC);
        Due.same("not too many classes", face.getDeclaredClasses().length <= 11, true);
        for (Class<?> inside : face.getDeclaredClasses()) {
            Due.same(inside + " is static", Modifier.isStatic(inside.getModifiers()), true);
            Due.same(inside + " is not public", Modifier.isPublic(inside.getModifiers()), false);
        }
    }

    private static void fields() {
        Due.same("NONE", StreetAutomata.NONE, -1);
        for (Field field : StreetAutomata.class.getDeclaredFields()) {
            Due.same(field + " is private", isHidden(field.getModifiers()), !field.getName().equals("NONE"));
            boolean changes = Modifier.isStatic(field.getModifiers()) && !Modifier.isFinal(field.getModifiers());
            Due.same(field + " is final if static", changes, false);
        }
        for (Class<?> inside : StreetAutomata.class.getDeclaredClasses()) {
            for (Field field : inside.getDeclaredFields()) {
                boolean changes = Modifier.isStatic(field.getModifiers()) && !Modifier.isFinal(field.getModifiers());
                Due.same(field + " is final if static", changes, false);
            }
        }
    }

    private static void source() throws IOException {
        String source = Files.readString(SOURCE).replaceAll("(?s)/\\*.*?\\*/", "").replaceAll("//.*", "");
        String[] banned = {"\\btry\\b", "\\bcatch\\b", "\\bfinally\\b", "->", "::", "\\bsynchronized\\b", "\\bassert\\b",
            "\\bpackage\\b", "\\bprotected\\b", "\\bSystem\\.(?!arraycopy)",
            "\\bThread\\b", "\\bRandom\\b", "\\bexit\\b", "Exact\\("};
        for (String sign : banned) {
            Due.same("the source has " + sign, Pattern.compile(sign).matcher(source).find(), false);
        }
        String[] imports = Arrays.stream(source.split("\n")).filter(line -> line.startsWith("import "))
                .toArray(String[]::new);
        Due.text("imports", String.join(" ", imports), "import java.util.Arrays; import java.util.NoSuchElementException;");
        Matcher thrown = Pattern.compile("throw (\\w+ \\w+)").matcher(source);
        while (thrown.find()) {
            Due.same("throws " + thrown.group(1), thrown.group(1).matches(
                    "new (IndexOutOfBounds|IllegalArgument|IllegalState|NoSuchElement)Exception"), true);
        }
    }
}
