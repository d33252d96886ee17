import java.io.IOException;
import java.lang.reflect.Constructor;
import java.lang.reflect.Field;
import java.lang.reflect.Method;
import java.lang.reflect.Modifier;
import java.nio.file.Files;
import java.nio.file.Path;
import java.util.HashSet;
import java.util.List;
import java.util.Set;
import java.util.TreeSet;
import java.util.regex.Matcher;
import java.util.regex.Pattern;

/** The rules of ../shared/LANGUAGE.md that can be looked at from outside, and the document's face. */
public final class LanguageTest {
    private static final Check CHECK = new Check();
    private static final Path SOURCE = Path.of("src/main/java/CoinsWarden.java");
    private static final Path DOC = Path.of("../shared/DOC.md");

    private static Set<String> faceOfDocument() throws IOException {
        Set<String> face = new TreeSet<>();
        boolean in = false;
        for (String line : Files.readAllLines(DOC)) {
            if (line.startsWith("public final class")) {
                in = true;
            } else if (in && line.startsWith("}")) {
                break;
            } else if (in && line.contains("(")) {
                face.add(line.trim().replaceAll("(int|long) \\w+([,)])", "$1$2").replace(";", ""));
            }
        }
        return face;
    }

    private static Set<String> faceOfClass() {
        Set<String> face = new TreeSet<>();
        for (Constructor<?> c : CoinsWarden.class.getDeclaredConstructors()) {
            face.add("public CoinsWarden(" + parameters(c.getParameterTypes()) + ")");
        }
        for (Method m : CoinsWarden.class.getDeclaredMethods()) {
            if (!Modifier.isPrivate(m.getModifiers())) {
                face.add(Modifier.toString(m.getModifiers()) + " " + m.getReturnType() + " " + m.getName()
                    + "(" + parameters(m.getParameterTypes()) + ")");
            }
        }
        return face;
    }

    private static String parameters(Class<?>[] types) {
        StringBuilder s = new StringBuilder();
        for (Class<?> t : types) {
            s.append(s.length() == 0 ? "" : ", ").append(t.getSimpleName());
        }
        return s.toString();
    }

    private static void face() throws IOException {
        Set<String> document = faceOfDocument();
        CHECK.due("the document's face", document.size(), 38);
        CHECK.due("the class has " + faceOfClass(), faceOfClass().equals(document) ? 1 : 0, 1);
        for (Field f : CoinsWarden.class.getDeclaredFields()) {
            boolean open = !Modifier.isPrivate(f.getModifiers());
            CHECK.due("open field " + f.getName(), open ? 1 : 0, f.getName().equals("NONE") ? 1 : 0);
        }
        CHECK.due("NONE", CoinsWarden.NONE, -1);
    }

    private static void classes() {
        Set<String> faceNames = new HashSet<>();
        for (Method m : CoinsWarden.class.getDeclaredMethods()) {
            if (Modifier.isPublic(m.getModifiers())) {
                faceNames.add(m.getName());
            }
        }
        Class<?>[] inside = CoinsWarden.class.getDeclaredClasses();
        CHECK.due("few classes", inside.length <= 12 ? 1 : 0, 1);
        for (Class<?> c : inside) {
            CHECK.due(c + " is static", Modifier.isStatic(c.getModifiers()) ? 1 : 0, 1);
            CHECK.due(c + " is not open", c.getModifiers() & (Modifier.PUBLIC | Modifier.PROTECTED), 0);
            for (Method m : c.getDeclaredMethods()) {
                CHECK.due(m + " has a name of its own", faceNames.contains(m.getName()) ? 1 : 0, 0);
            }
            fields(c);
        }
        fields(CoinsWarden.class);
    }

    private static void fields(Class<?> c) {
        int own = 0;
        for (Field f : c.getDeclaredFields()) {
            if (Modifier.isStatic(f.getModifiers())) {
                CHECK.due(f + " is final", Modifier.isFinal(f.getModifiers()) ? 1 : 0, 1);
            } else {
                own++;
            }
        }
        CHECK.due("fields of " + c, own <= 20 ? 1 : 0, 1);
    }

    private static String bare(String source) {
        return Pattern.compile("(?s)/\\*.*?\\*/").matcher(source)
            .replaceAll(m -> "\n".repeat((int) m.group().lines().count() - 1))
            .replaceAll("//[^\n]*", "").replaceAll("\"[^\"\n]*\"", "\"\"").replaceAll("'[^']'", "' '");
    }

    private static void words(String bare) {
        List<String> banned = List.of("throw", "throws", "try", "catch", "finally", "synchronized", "assert", "double",
            "float", "hashCode", "toString", "Object", "Random", "Thread", "protected", "transient", "volatile");
        for (String word : banned) {
            CHECK.due("banned " + word, Pattern.compile("\\b" + word + "\\b").matcher(bare).find() ? 1 : 0, 0);
        }
        for (String sign : List.of("->", "::", "Exact(", "static {", "@")) {
            CHECK.due("banned " + sign, bare.contains(sign) ? 1 : 0, 0);
        }
        Matcher imports = Pattern.compile("import ([^;]*);").matcher(bare);
        while (imports.find()) {
            CHECK.due("import " + imports.group(1), imports.group(1).equals("java.util.Arrays") ? 1 : 0, 1);
        }
        Matcher library = Pattern.compile("\\b(Arrays|Math|System|Integer|Long)\\.(\\w+)").matcher(bare);
        Set<String> used = Set.of("Arrays.fill", "Arrays.copyOf", "Math.min", "Math.max", "System.arraycopy",
            "Integer.bitCount");
        while (library.find()) {
            CHECK.due("library " + library.group(), used.contains(library.group()) ? 1 : 0, 1);
        }
    }

    private static void methods(String bare) {
        Matcher head = Pattern.compile("(?m)^( {4}| {8})(?=[a-zA-Z])(?!return|new|else)[\\w\\[\\] ]*\\b\\w+\\(([^)]*)\\) \\{$")
            .matcher(bare);
        int found = 0;
        while (head.find()) {
            found++;
            String indent = head.group(1);
            int close = bare.indexOf("\n" + indent + "}", head.end());
            long lines = bare.substring(head.start(), Math.max(close, head.start())).lines().count() + 1;
            CHECK.due("lines of " + head.group().trim(), lines <= 60 ? 1 : 0, 1);
            CHECK.due("parameters of " + head.group().trim(), head.group(2).split(",").length <= 7 ? 1 : 0, 1);
        }
        CHECK.due("methods were found", found > 100 ? 1 : 0, 1);
    }

    public static void main(String[] args) throws IOException {
        String bare = bare(Files.readString(SOURCE));
        face();
        classes();
        words(bare);
        methods(bare);
        CHECK.close("LanguageTest");
    }
}
