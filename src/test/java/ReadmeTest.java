import java.io.IOException;
import java.lang.reflect.Method;
import java.lang.reflect.Modifier;
import java.nio.file.Files;
import java.nio.file.Path;
import java.util.HashMap;
import java.util.List;
import java.util.Map;
import java.util.regex.Matcher;
import java.util.regex.Pattern;
import java.util.stream.Stream;

/** README.md: its example answers as it tells, and it names each call and each file of the tests. */
public final class ReadmeTest {
    private static final Check CHECK = new Check();
    private static final Pattern CALL = Pattern.compile("x\\.(\\w+)\\(([^)]*)\\);\\s+// (-?\\d+): .*");

    private static Map<String, Method> face() {
        Map<String, Method> face = new HashMap<>();
        for (Method m : CoinsWarden.class.getDeclaredMethods()) {
            if (Modifier.isPublic(m.getModifiers())) {
                face.put(m.getName(), m);
            }
        }
        return face;
    }

    private static Object[] numbers(String told) {
        if (told.isEmpty()) {
            return new Object[0];
        }
        return Stream.of(told.split(", ")).map(Integer::valueOf).toArray();
    }

    private static void example(List<String> lines, Map<String, Method> face) throws ReflectiveOperationException {
        CoinsWarden x = new CoinsWarden();
        int calls = 0;
        for (String line : lines) {
            if (!line.startsWith("x.")) {
                continue;
            }
            Matcher call = CALL.matcher(line);
            CHECK.due("a call with its answer: " + line, call.matches() ? 1 : 0, 1);
            if (call.matches()) {
                calls++;
                Number got = (Number) face.get(call.group(1)).invoke(x, numbers(call.group(2)));
                CHECK.due(line, got.longValue(), Long.parseLong(call.group(3)));
            }
        }
        CHECK.due("the example has calls", calls > 20 ? 1 : 0, 1);
    }

    public static void main(String[] args) throws IOException, ReflectiveOperationException {
        Path readme = Path.of("README.md");
        String words = Files.readString(readme);
        Map<String, Method> face = face();
        example(Files.readAllLines(readme), face);
        for (String name : face.keySet()) {
            CHECK.due("README.md names " + name, words.contains("`" + name + "`") ? 1 : 0, 1);
        }
        try (Stream<Path> tests = Files.list(Path.of("src/test/java"))) {
            for (Path test : tests.sorted().toList()) {
                String name = test.getFileName().toString();
                CHECK.due("README.md names " + name, words.contains(name) ? 1 : 0, 1);
            }
        }
        CHECK.due("README.md tells how tests are run", words.contains(".ci/run") ? 1 : 0, 1);
        CHECK.close("ReadmeTest");
    }
}
