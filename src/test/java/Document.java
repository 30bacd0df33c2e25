import java.io.IOException;
import java.io.UncheckedIOException;
import java.nio.file.Files;
import java.nio.file.Path;
import java.util.ArrayList;
import java.util.List;

/** The document's text, part by part, as tests quote it. */
final class Document {
    static final int PROMISES = 13;

    private static final Path FILE = Path.of("..", "shared", "DOC.md");
    private static final String TITLE = "## ";

    private Document() {
    }

    /** Whether a sentence stands in a promise's own part, or in one of those that all promises rest on. */
    static boolean says(int promise, String sentence) {
        return partOf(promise).contains(sentence) || terms().contains(sentence) || whatItIs().contains(sentence);
    }

    static String partOf(int promise) {
        // Before the colon stands the method's face.
        return part("Promise " + promise + ": ").replaceFirst("`[^`]*`: ", "");
    }

    static String terms() {
        return part("Terms");
    }

    static String whatItIs() {
        return part("What it is");
    }

    /** The text under a title, in one line, without the marks that are no part of a sentence. */
    private static String part(String title) {
        List<String> found = new ArrayList<>();
        boolean inPart = false;
        for (String line : lines()) {
            if (line.startsWith(TITLE)) {
                inPart = line.startsWith(TITLE + title);
            } else if (inPart && !line.startsWith("```") && !line.startsWith("=====")) {
                found.add(line.trim());
            }
        }
        return String.join(" ", found).trim();
    }

    private static List<String> lines() {
        try {
            return Files.readAllLines(FILE);
        } catch (IOException e) {
            throw new UncheckedIOException(e);
        }
    }
}
