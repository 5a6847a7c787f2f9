import java.io.IOException;
import java.lang.reflect.Method;
import java.lang.reflect.Modifier;
import java.net.URL;
import java.net.URLClassLoader;
import java.nio.file.Files;
import java.nio.file.Path;
import java.util.ArrayList;
import java.util.List;
import java.util.regex.Matcher;
import java.util.regex.Pattern;
import javax.tools.ToolProvider;

/** The example of README.md compiles, and each of its lines answers what its comment begins with. */
public final class ReadmeTest {
    private static final Pattern LINE = Pattern.compile("((?:(\\w+ )(\\w+) = )?(.*));\\s+// (.*)");
    private static final Pattern ANSWER = Pattern.compile("(-?\\d+|true|false)(:.*)?");

    private final List<String> lines = new ArrayList<>();
    private final List<String> due = new ArrayList<>();
    private final StringBuilder program = new StringBuilder();

    public static void main(String[] args) throws IOException, ReflectiveOperationException {
        String readme = Files.readString(Path.of("README.md"));
        new ReadmeTest().example(readme);
        calls(readme);
        Due.end();
    }

    private void example(String readme) throws IOException, ReflectiveOperationException {
        int begin = readme.indexOf("```java\n") + 8;
        program.append("public final class Example { public static java.util.List<String> answers() {\n");
        program.append("java.util.List<String> answers = new java.util.ArrayList<>();\n");
        for (String line : readme.substring(begin, readme.indexOf("```", begin)).split("\n")) {
            addLine(line);
        }
        program.append("return answers; } }\n");
        List<?> got = answers();
        Due.same("the number of answers", got.size(), due.size());
        for (int index = 0; index < due.size(); index++) {
            Due.text("README: " + lines.get(index), got.get(index).toString(), due.get(index));
        }
    }

    private void addLine(String line) {
        Matcher parts = LINE.matcher(line);
        if (line.startsWith("//") || !isCall(line, parts)) {
            return;
        }
        boolean isNamed = parts.group(3) != null;
        program.append(isNamed ? parts.group(1) + ";\n" : "");
        if (parts.group(4).startsWith("new ")) {
            return;
        }
        Matcher answer = ANSWER.matcher(parts.group(5));
        Due.same("README: whether this comment begins with an answer: " + line, answer.matches(), true);
        program.append("answers.add(String.valueOf(").append(isNamed ? parts.group(3) : parts.group(4)).append("));\n");
        lines.add(line);
        due.add(answer.matches() ? answer.group(1) : "an answer");
    }

    private static boolean isCall(String line, Matcher parts) {
        Due.same("README: whether this line is a call with a comment: " + line, parts.matches(), true);
        return parts.matches();
    }

    private List<?> answers() throws IOException, ReflectiveOperationException {
        Path place = Files.createTempDirectory("readme");
        Path source = place.resolve("Example.java");
        Path made = place.resolve("Example.class");
        Files.writeString(source, program.toString());
        int wrong = ToolProvider.getSystemJavaCompiler().run(null, null, null,
                "-cp", System.getProperty("java.class.path"), "-d", place.toString(), source.toString());
        Due.same("README: whether the example compiles", wrong == 0, true);
        try (URLClassLoader loader = new URLClassLoader(new URL[] {place.toUri().toURL()})) {
            return wrong == 0 ? (List<?>) loader.loadClass("Example").getMethod("answers").invoke(null) : List.of();
        } finally {
            Files.deleteIfExists(made);
            Files.deleteIfExists(source);
            Files.deleteIfExists(place);
        }
    }

    /** README tells for what each method of the face is called. */
    private static void calls(String readme) {
        for (Method method : StreetAutomata.class.getDeclaredMethods()) {
            if (Modifier.isPublic(method.getModifiers())) {
                String name = "`" + method.getName() + "`";
                Due.same("README names " + name, readme.contains(name), true);
            }
        }
    }
}
