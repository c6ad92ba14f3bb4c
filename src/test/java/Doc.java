import java.io.IOException;
import java.nio.file.Files;
import java.nio.file.Path;

/** The document, so that a test can quote the sentence that it stands for. */
final class Doc {
    static final int PROMISES = 43;
    /** In place of a promise's number: what stands under "Terms". */
    static final int TERMS = 0;

    private static final String TEXT = read();

    private Doc() {
    }

    private static String read() {
        try {
            return Files.readString(Path.of("..", "shared", "DOC.md"));
        } catch (IOException e) {
            throw new IllegalStateException(e);
        }
    }

    static boolean says(int promise, String quote) {
        return section(promise).contains(quote);
    }

    /** From a heading to the next one, without the heading's line. */
    static String section(int promise) {
        String head = promise == TERMS ? "\n## Terms\n" : "\n## Promise " + promise + ": ";
        int start = TEXT.indexOf(head);
        if (start < 0) {
            return "";
        }
        int stop = TEXT.indexOf("\n## ", start + 1);
        return TEXT.substring(TEXT.indexOf('\n', start + 1), stop < 0 ? TEXT.length() : stop);
    }
}
