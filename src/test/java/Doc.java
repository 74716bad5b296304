import java.io.IOException;
import java.io.UncheckedIOException;
import java.nio.file.Files;
import java.nio.file.Path;

/** The document, so that a test can name the sentence that it is for, and is told when it no longer stands there. */
final class Doc {
    static final int TERMS = 0;

    private static final String WHOLE = read();

    private Doc() {
    }

    /** Whether the document says these words under "Promise 1" to "Promise 36", or under "Terms". */
    static boolean says(int promise, String words) {
        String heading = promise == TERMS ? "## Terms " : "## Promise " + promise + ": ";
        int from = WHOLE.indexOf(heading);
        if (from < 0) {
            return false;
        }
        int to = WHOLE.indexOf(" ## ", from);
        return WHOLE.substring(from, to < 0 ? WHOLE.length() : to).contains(words);
    }

    private static String read() {
        try {
            return Files.readString(Path.of("../shared/DOC.md")).replaceAll("\\s+", " ");
        } catch (IOException e) {
            throw new UncheckedIOException(e);
        }
    }
}
