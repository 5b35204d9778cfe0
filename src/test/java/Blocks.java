import java.io.IOException;
import java.nio.file.Files;
import java.nio.file.Path;
import java.util.ArrayList;
import java.util.List;
import java.util.regex.Matcher;
import java.util.regex.Pattern;

/** The fenced blocks of a text file, such as the face in DOC.md and the example in README.md. */
final class Blocks {
    private Blocks() {
    }

    static List<String> of(Path file, String language) throws IOException {
        Matcher block = Pattern.compile("(?ms)^```" + language + "\\R(.*?)^```\\s*$").matcher(Files.readString(file));
        List<String> found = new ArrayList<>();
        while (block.find()) {
            found.add(block.group(1));
        }
        return found;
    }
}
