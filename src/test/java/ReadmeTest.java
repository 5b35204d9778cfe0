import java.io.IOException;
import java.lang.reflect.Method;
import java.lang.reflect.Modifier;
import java.nio.file.Files;
import java.nio.file.Path;
import java.util.ArrayList;
import java.util.Comparator;
import java.util.List;
import java.util.regex.Matcher;
import java.util.regex.Pattern;
import java.util.stream.Collectors;
import java.util.stream.Stream;

/** README.md, done as written: its example prints what its comments say, and its commands run. */
public final class ReadmeTest {
    private static final Path README = Path.of("README.md");
    private static final Path ALL_TESTS = Path.of(".ci/run");
    private static final Pattern PRINTED = Pattern.compile("System\\.out\\.println\\(.*\\); +// (-?\\d+): ");

    public static void main(String[] args) throws IOException, InterruptedException {
        Due due = new Due("README.md");
        List<String> examples = Blocks.of(README, "java");
        List<String> commands = Blocks.of(README, "sh");
        due.same("examples", examples.size(), 1);
        due.same("commands for the example, all tests and one test", commands.size(), 3);
        namesTheWholeFace(due, examples.get(0));
        due.same("the command for all tests", commands.get(1).trim(), ALL_TESTS.toString());
        due.same("it can be executed", Files.isExecutable(ALL_TESTS) ? 1 : 0, 1);
        Path copy = copyOfTheProject();
        try {
            Files.writeString(copy.resolve("Example.java"), examples.get(0));
            due.same("the example", run(copy, commands.get(0)), "exit 0\n" + saidToBePrinted(examples.get(0)));
            String oneTest = run(copy, commands.get(2));
            due.same("one test alone", oneTest.contains(" answers looked at, 0 not as due") ? "as due" : oneTest, "as due");
        } finally {
            remove(copy);
        }
        due.end();
    }

    private static void namesTheWholeFace(Due due, String example) throws IOException {
        String text = Files.readString(README);
        for (Method method : StockDesk.class.getDeclaredMethods()) {
            if (Modifier.isPublic(method.getModifiers())) {
                String name = method.getName();
                boolean hasRow = Pattern.compile("(?m)^\\| `" + name + "\\(").matcher(text).find();
                due.same("a row for " + name, hasRow ? 1 : 0, 1);
                due.same("the example uses " + name, example.contains("desk." + name + "(") ? 1 : 0, 1);
            }
        }
    }

    /** A line that prints without saying what is no match, and so is missed in the comparison. */
    private static String saidToBePrinted(String example) {
        Matcher line = PRINTED.matcher(example);
        StringBuilder said = new StringBuilder();
        while (line.find()) {
            said.append(line.group(1)).append('\n');
        }
        return said.toString();
    }

    /** The commands write beside README.md, so they are given a copy. */
    private static Path copyOfTheProject() throws IOException {
        Path copy = Files.createTempDirectory("readme");
        for (Path from : pathsUnder(Path.of("src"))) {
            Files.copy(from, copy.resolve(from));
        }
        return copy;
    }

    private static List<Path> pathsUnder(Path top) throws IOException {
        try (Stream<Path> paths = Files.walk(top)) {
            return paths.collect(Collectors.toCollection(ArrayList::new));
        }
    }

    private static void remove(Path top) throws IOException {
        List<Path> deepestFirst = pathsUnder(top);
        deepestFirst.sort(Comparator.reverseOrder());
        for (Path path : deepestFirst) {
            Files.delete(path);
        }
    }

    private static String run(Path directory, String commands) throws IOException, InterruptedException {
        Process shell = new ProcessBuilder("sh", "-e", "-c", commands).directory(directory.toFile())
            .redirectError(ProcessBuilder.Redirect.INHERIT).start();
        String printed = new String(shell.getInputStream().readAllBytes());
        return "exit " + shell.waitFor() + "\n" + printed;
    }
}
