import java.io.IOException;
import java.nio.file.Files;
import java.nio.file.Path;

/** The document's words: a test of a sentence quotes it, so that what it tests can be looked up. */
final class Document {
    final String words;
    private final Check check;

    Document(Check check) throws IOException {
        this.check = check;
        words = Files.readString(Path.of("../shared/DOC.md")).replaceAll("\\s+", " ");
    }

    /** The tests behind this call are of that sentence. */
    String sentence(String quote) {
        check.due("the document says: " + quote, words.contains(quote) ? 1 : 0, 1);
        return quote;
    }
}
