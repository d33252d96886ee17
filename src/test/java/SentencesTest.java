import java.io.IOException;
import java.nio.file.Files;
import java.nio.file.Path;
import java.util.ArrayList;
import java.util.List;
import java.util.regex.Matcher;
import java.util.regex.Pattern;
import java.util.stream.Stream;

/** Each promise, and each of the Terms, has sentences that a test quotes with doc.sentence(..) ahead of testing them. */
public final class SentencesTest {
    private static final Check CHECK = new Check();
    private static final Pattern QUOTE = Pattern.compile("doc\\.sentence\\(((?:\"(?:[^\"\\\\]|\\\\.)*\"\\s*\\+?\\s*)+)\\)");
    private static final Pattern LITERAL = Pattern.compile("\"((?:[^\"\\\\]|\\\\.)*)\"");

    private static List<String> quotes() throws IOException {
        List<String> all = new ArrayList<>();
        try (Stream<Path> files = Files.list(Path.of("src/test/java"))) {
            for (Path file : files.sorted().toList()) {
                Matcher quote = QUOTE.matcher(Files.readString(file));
                while (quote.find()) {
                    all.add(joined(quote.group(1)));
                }
            }
        }
        return all;
    }

    private static String joined(String literals) {
        StringBuilder whole = new StringBuilder();
        Matcher literal = LITERAL.matcher(literals);
        while (literal.find()) {
            whole.append(literal.group(1).replace("\\\"", "\""));
        }
        return whole.toString();
    }

    private static void quoted(String name, String part, List<String> quotes, int least) {
        long found = quotes.stream().distinct().filter(part::contains).count();
        CHECK.due(name + " has sentences that are tested: " + found, found >= least ? 1 : 0, 1);
    }

    private static String between(String words, String from, String upTo) {
        int start = words.indexOf(from);
        int stop = words.indexOf(upTo, start + from.length());
        CHECK.due("the document has " + from, start >= 0 && stop > start ? 1 : 0, 1);
        return words.substring(Math.max(0, start), Math.max(0, Math.max(start, stop)));
    }

    public static void main(String[] args) throws IOException {
        String words = new Document(CHECK).words;
        List<String> quotes = quotes();
        for (int n = 1; n <= 38; n++) {
            quoted("promise " + n, between(words, "## Promise " + n + ":", "## "), quotes, 1);
        }
        quoted("Terms I", between(words, "## Terms I.", " II. TEXTS"), quotes, 9);
        quoted("Terms II", between(words, " II. TEXTS", " III. A CAR"), quotes, 15);
        quoted("Terms III", between(words, " III. A CAR", " IV. A DAY"), quotes, 15);
        quoted("Terms IV", between(words, " IV. A DAY", "## Promise 1:"), quotes, 5);
        CHECK.close("SentencesTest");
    }
}
