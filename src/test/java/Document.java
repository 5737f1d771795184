import java.io.IOException;
import java.io.UncheckedIOException;
import java.nio.file.Files;
import java.nio.file.Path;

/** The document, to see that a sentence that a test stands for is really in it. */
final class Document {
    private static final Path PLACE = Path.of("../shared/DOC.md");
    private static final String TEXT = read();

    private Document() {
    }

    static boolean says(String sentence) {
        return TEXT.isEmpty() || TEXT.contains(sentence);
    }

    // The tests are of use without the document too; only what they quote is not looked at then.
    private static String read() {
        if (!Files.isReadable(PLACE)) {
            System.out.println(PLACE + " is not here: what is quoted of it is not looked at");
            return "";
        }
        try {
            return Files.readString(PLACE).replaceAll("\\s+", " ");
        } catch (IOException e) {
            throw new UncheckedIOException(e);
        }
    }
}
