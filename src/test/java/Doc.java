import java.io.IOException;
import java.io.UncheckedIOException;
import java.nio.file.Files;
import java.nio.file.Path;
import java.util.ArrayList;
import java.util.List;

/** The document as the tests read it. */
final class Doc {
    private static final Path FILE = Path.of("../shared/DOC.md");

    /** What it says from its first line to its last, without headings and the public face, in one line. */
    static String sentences() {
        StringBuilder all = new StringBuilder();
        boolean face = false;
        for (String line : lines(FILE)) {
            if (line.startsWith("```")) {
                face = line.equals("```java");
            } else if (!face && !line.startsWith("#")) {
                all.append(line.replace("`", "")).append(' ');
            }
        }
        return all.toString().replaceAll("\\s+", " ").strip();
    }

    /** The members of the public face, a line each, without the signs behind them. */
    static List<String> face() {
        List<String> members = new ArrayList<>();
        boolean face = false;
        for (String line : lines(FILE)) {
            if (line.startsWith("```")) {
                face = line.equals("```java");
            } else if (face && line.startsWith("    public ")) {
                members.add(line.strip().replace(";", ""));
            }
        }
        return members;
    }

    static List<String> lines(Path file) {
        try {
            return Files.readAllLines(file);
        } catch (IOException e) {
            throw new UncheckedIOException(e);
        }
    }
}
