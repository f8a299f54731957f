import java.io.IOException;
import java.nio.file.Files;
import java.nio.file.Path;

/** The document that the tests quote: a sentence that has changed there must be tested anew. */
final class Document {
    private static String text = "";

    private Document() {
    }

    /** Whether these words stand under the heading ("Promise 7"), or, where there is none, in the description. */
    static boolean says(String where, String words) {
        int start = Math.max(text().indexOf("## " + where + ":"), text().indexOf("## " + where + "\n"));
        start = start >= 0 ? start : text().indexOf("## Description");
        int end = text().indexOf("## ", start + 3);
        return start >= 0 && end > start && plain(text().substring(start, end)).contains(plain(words));
    }

    private static String plain(String words) {
        return words.replace("`", "").replace("- ", "").replaceAll("\\s+", " ");
    }

    private static String text() {
        try {
            text = text.isEmpty() ? Files.readString(Path.of("../shared/DOC.md")) : text;
        } catch (IOException e) {
            throw new IllegalStateException("no document", e);
        }
        return text;
    }
}
