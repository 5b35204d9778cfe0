import java.io.IOException;
import java.nio.file.Files;
import java.nio.file.Path;
import java.util.List;
import java.util.Map;
import java.util.TreeMap;
import java.util.regex.Matcher;
import java.util.regex.Pattern;
import java.util.stream.Collectors;
import java.util.stream.Stream;

/** Every sentence of the terms and the promises has a test that quotes it, and every quote stands in the document. */
public final class DocumentTest {
    private static final Path DOCUMENT = Path.of("../shared/DOC.md");
    private static final Path TESTS = Path.of("src/test/java");
    private static final Pattern HEADING = Pattern.compile("new Due\\(\"([^\"]*)\"\\)");
    private static final Pattern QUOTE = Pattern.compile("due\\.sentence\\(\\s*\"([^\"]*)\"");

    /** What may stand between two quotes without a test: it promises nothing. */
    private static final String JOINTS = "[\\s.,:;()]*";

    public static void main(String[] args) throws IOException {
        Due due = new Due("The document");
        Map<String, String> sections = sections();
        Map<String, String> left = new TreeMap<>(sections);
        for (Path file : testFiles()) {
            String source = Files.readString(file);
            Matcher heading = HEADING.matcher(source);
            Matcher quote = QUOTE.matcher(source);
            while (quote.find()) {
                due.same("a heading before the quotes of " + file, heading.find(0) ? 1 : 0, 1);
                String name = heading.group(1);
                boolean stands = sections.getOrDefault(name, "").contains(quote.group(1));
                due.same("the document has, under " + name + ": " + quote.group(1), stands ? 1 : 0, 1);
                left.computeIfPresent(name, (n, text) -> text.replace(quote.group(1), "|"));
            }
        }
        left.keySet().removeIf(name -> !name.equals("Terms") && !name.startsWith("Promise "));
        due.same("terms and promises", left.size(), 17);
        left.forEach((name, text) -> due.same("no test quotes, under " + name, unquoted(text), ""));
        due.end();
    }

    private static List<Path> testFiles() throws IOException {
        try (Stream<Path> files = Files.list(TESTS)) {
            return files.filter(file -> file.toString().endsWith("Test.java")).sorted().collect(Collectors.toList());
        }
    }

    private static Map<String, String> sections() throws IOException {
        Map<String, String> sections = new TreeMap<>();
        for (String section : Files.readString(DOCUMENT).split("(?m)^## ")) {
            int end = section.indexOf('\n');
            sections.put(section.substring(0, end).trim(), section.substring(end).replaceAll("\\s+", " "));
        }
        return sections;
    }

    /** What is left without quotes and without the face, which FaceTest holds. */
    private static String unquoted(String text) {
        return Stream.of(text.replaceAll("`[^`]*`", "|").split("\\|")).filter(piece -> !piece.matches(JOINTS))
            .map(String::trim).collect(Collectors.joining(" | "));
    }
}
