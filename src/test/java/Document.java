import java.io.IOException;
import java.nio.file.Files;
import java.nio.file.Path;
import java.util.ArrayList;
import java.util.List;

/** The document's words: a test of a sentence quotes it, so that what it tests can be looked up. */
final class Document {
    private final String words;
    private final List<String> quoted = new ArrayList<>();
    private final Check check;

    Document(Check check) throws IOException {
        this.check = check;
        words = Files.readString(Path.of("../shared/DOC.md")).replaceAll("\\s+", " ");
    }

    /** The tests behind this call are of that sentence. */
    String sentence(String quote) {
        check.due("the document says: " + quote, words.contains(quote) ? 1 : 0, 1);
        quoted.add(quote);
        return quote;
    }

    /** Each promise from one to another has a sentence that was quoted. */
    void everyPromiseQuoted(int first, int last) {
        for (int n = first; n <= last; n++) {
            int from = words.indexOf("## Promise " + n + ":");
            int upTo = words.indexOf("## ", from + 3);
            String promise = words.substring(from, upTo);
            boolean found = quoted.stream().anyMatch(promise::contains);
            check.due("promise " + n + " has a test of its edges", found ? 1 : 0, 1);
        }
    }
}
