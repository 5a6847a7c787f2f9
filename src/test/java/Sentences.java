import java.io.IOException;
import java.io.UncheckedIOException;
import java.nio.file.Files;
import java.nio.file.Path;
import java.util.LinkedHashMap;
import java.util.LinkedHashSet;
import java.util.Map;
import java.util.Set;
import java.util.regex.Matcher;
import java.util.regex.Pattern;

/**
 * The sentences of the document, part by part, and those that no test has opened yet. A part is a
 * promise, by its number, or a paragraph of the terms, by the words that it begins with.
 */
final class Sentences {
    private static final Path DOCUMENT = Path.of("../shared/DOC.md");
    private static final Pattern HEADING = Pattern.compile("## (?:Promise (\\d+): )?(.*)");
    private static final Pattern TERM = Pattern.compile("([A-Z][a-z ]{3,22})\\. (?=[A-Z])(.*)");
    /** A refusal for several parameters counts as one for each: "if slot or state does not exist". */
    private static final Pattern REFUSAL = Pattern.compile("(Throws `\\w+` if )(\\w+(?: or \\w+)*)( does not exist)");
    private static final Map<String, Set<String>> ALL = read();
    private static final Map<String, Set<String>> LEFT = read();

    private Sentences() {
    }

    /** Opens the tests of a sentence, named by words of it; what fails from here on is told with them. */
    static void open(String part, String words) {
        boolean found = false;
        for (String sentence : ALL.getOrDefault(part, Set.of())) {
            if (sentence.contains(words)) {
                found = true;
                LEFT.get(part).remove(sentence);
            }
        }
        Due.about(part + ", \"" + words + "\"");
        Due.same("whether these words stand there", found, true);
    }

    static void open(int promise, String words) {
        open(Integer.toString(promise), words);
    }

    /** Each sentence of these promises must have been opened. */
    static void allOpened(int first, int last) {
        for (int promise = first; promise <= last; promise++) {
            allOpened(Integer.toString(promise));
        }
    }

    static void allOpened(String part) {
        Due.about(part);
        Due.same("whether the document has this part", ALL.containsKey(part), true);
        for (String sentence : LEFT.getOrDefault(part, Set.of())) {
            Due.text("a sentence without a test", sentence, "");
        }
    }

    private static Map<String, Set<String>> read() {
        Map<String, Set<String>> parts = new LinkedHashMap<>();
        String part = "";
        boolean isCode = false;
        for (String line : lines()) {
            Matcher heading = HEADING.matcher(line);
            Matcher term = TERM.matcher(line);
            isCode ^= line.startsWith("```");
            if (heading.matches()) {
                part = heading.group(1) == null ? heading.group(2) : heading.group(1);
            } else if (!part.matches("\\d+") && term.matches()) {
                part = term.group(1);
                add(parts, part, term.group(2));
            } else if (!isCode && !line.startsWith("```") && !line.startsWith("Ahead of the calls")) {
                add(parts, part, line);
            }
        }
        return parts;
    }

    private static Iterable<String> lines() {
        try {
            return Files.readAllLines(DOCUMENT);
        } catch (IOException e) {
            throw new UncheckedIOException(e);
        }
    }

    private static void add(Map<String, Set<String>> parts, String part, String line) {
        Set<String> sentences = parts.computeIfAbsent(part, key -> new LinkedHashSet<>());
        Matcher refusal = REFUSAL.matcher(line);
        if (refusal.matches()) {
            for (String name : refusal.group(2).split(" or ")) {
                sentences.add(refusal.group(1) + name + refusal.group(3));
            }
            return;
        }
        for (String sentence : line.replaceFirst("^`[^`]*`: ", "").split("(?<=\\.) (?=[A-Z])")) {
            if (!sentence.isBlank()) {
                sentences.add(sentence);
            }
        }
    }
}
