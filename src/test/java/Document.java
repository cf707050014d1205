import java.io.IOException;
import java.nio.file.Files;
import java.nio.file.Path;
import java.util.regex.Matcher;
import java.util.regex.Pattern;

/** Tells whether the words that a test holds do stand in the document. */
final class Document {
    private static final Path PLACE = Path.of("../shared/DOC.md");
    private static final String TEXT = read();

    private Document() { }

    private static String read() {
        if (!Files.isReadable(PLACE)) {
            return "";
        }
        try {
            return Files.readString(PLACE).replaceAll("\\s+", " ");
        } catch (IOException e) {
            return "";
        }
    }

    /** Whether a promise, or the terms that all promises use, says these words. */
    static boolean says(int promise, String words) {
        // Where the document isn't at hand, its words can't be wrong.
        return TEXT.isEmpty() || part("## Terms").contains(words)
            || part("## Promise " + promise + ":").contains(words);
    }

    /** The findings that a call's promise names, in its order; null where the document isn't at hand. */
    static String findings(String call) {
        if (TEXT.isEmpty()) {
            return null;
        }
        Matcher heading = Pattern.compile("## Promise \\d+: " + call + " ").matcher(TEXT);
        String words = heading.find() ? part(heading.group()) : "";
        // A finding opens a sentence, or follows another one; elsewhere its word is a term.
        Matcher m = Pattern.compile(
            "(?<=[.,] )(?:BEYOND|FULL|KIND|NONE|STATE|MISSING|SIZE)(?=[.:,]|$| \\(| likewise)").matcher(words);
        StringBuilder row = new StringBuilder();
        while (m.find()) {
            row.append(row.length() > 0 ? ", " : "").append(m.group());
        }
        return row.toString();
    }

    /** Whether the document's face has a call with arguments of these names. */
    static boolean hasFace(String call) {
        return TEXT.isEmpty() || part("## The public face").replaceAll("(?<=[(,] ?)int ", "").contains(" " + call + ";");
    }

    private static String part(String heading) {
        int start = TEXT.indexOf(heading);
        if (start < 0) {
            return "";
        }
        int end = TEXT.indexOf(" ## ", start);
        return TEXT.substring(start, end < 0 ? TEXT.length() : end);
    }
}
