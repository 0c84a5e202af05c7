import java.io.IOException;
import java.io.UncheckedIOException;
import java.nio.file.Files;
import java.nio.file.Path;

/** The document's own words, so that a test can name the sentence that it holds the class to. */
final class Doc {
    static final int PROMISES = 29;
    private static final Path FILE = Path.of("../shared/DOC.md");
    // At 0 stands all that comes before promise 1.
    private static final String[] PARTS = read().split("## Promise \\d+: ");

    private Doc() {
    }

    static boolean says(int promise, String words) {
        return promise < PARTS.length && PARTS[promise].contains(words);
    }

    private static String read() {
        try {
            return Files.readString(FILE).replaceAll("\\s+", " ");
        } catch (IOException e) {
            throw new UncheckedIOException("the tests quote the document", e);
        }
    }
}
