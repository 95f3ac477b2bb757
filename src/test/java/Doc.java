import java.io.IOException;
import java.io.UncheckedIOException;
import java.nio.file.Files;
import java.nio.file.Path;
import java.util.List;

/** The document's own words, so that a test which quotes a sentence that does not stand there fails. */
final class Doc {
    private static final Path FILE = Path.of("..", "shared", "DOC.md");
    private static final List<String> HEADINGS_WITHOUT_A_SIGN = List.of("Holes, doves", "Undo, the snapshot");

    private Doc() {
    }

    /** Without the document, as on a machine that has the class alone, quotes cannot be checked; the tests still run. */
    static boolean isThere() {
        return Files.isReadable(FILE);
    }

    /** Tells whether the words stand below this heading ("Coming home", "Promise 3"), wherever lines are broken. */
    static boolean says(String heading, String words) {
        return below(heading).contains(words);
    }

    /** The text below this heading, in one line. */
    static String below(String heading) {
        StringBuilder text = new StringBuilder();
        boolean inside = false;
        for (String line : lines()) {
            if (line.startsWith("#") || HEADINGS_WITHOUT_A_SIGN.contains(line.trim())) {
                String found = line.replace("#", "").trim();
                inside = found.equals(heading) || found.startsWith(heading + ":");
            } else if (inside) {
                text.append(line.trim()).append(' ');
            }
        }
        return text.toString().replaceAll("\\s+", " ");
    }

    private static List<String> lines() {
        try {
            return Files.readAllLines(FILE);
        } catch (IOException e) {
            throw new UncheckedIOException(e);
        }
    }
}
