import java.io.IOException;
import java.nio.file.Files;
import java.nio.file.Path;

/** ../shared/DOC.md in its parts, so that a test can tell by which sentence of it an answer is due. */
final class Document {
    private static final Path PLACE = Path.of("../shared/DOC.md");
    private static final String TEXT = read();

    private Document() {
    }

    private static String read() {
        try {
            return Files.exists(PLACE) ? Files.readString(PLACE) : "";
        } catch (IOException e) {
            return "";
        }
    }

    /** Whether a sentence stands in a part ("What it is", "I", "II", "THE IMAGE", "Promise 7"); true without the document. */
    static boolean says(String part, String sentence) {
        return TEXT.isEmpty() || part(part).contains(sentence);
    }

    private static String part(String name) {
        switch (name) {
            case "I":
                return between("==== I. ", "==== II. ");
            case "II":
                return between("==== II. ", "\nTHE IMAGE: ");
            case "THE IMAGE":
                return between("\nTHE IMAGE: ", "\n## ");
            case "What it is":
                return between("\n## What it is", "\n## ");
            default:
                return between("\n## " + name + ": ", "\n## ");
        }
    }

    private static String between(String from, String to) {
        int start = TEXT.indexOf(from);
        if (start < 0) {
            return "";
        }
        int end = TEXT.indexOf(to, start + from.length());
        return (end < 0 ? TEXT.substring(start) : TEXT.substring(start, end)).replaceAll("\\s+", " ");
    }
}
