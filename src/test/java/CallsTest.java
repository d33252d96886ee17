import com.sun.source.tree.ArrayAccessTree;
import com.sun.source.tree.AssignmentTree;
import com.sun.source.tree.CompilationUnitTree;
import com.sun.source.tree.CompoundAssignmentTree;
import com.sun.source.tree.ExpressionTree;
import com.sun.source.tree.IdentifierTree;
import com.sun.source.tree.MethodInvocationTree;
import com.sun.source.tree.MethodTree;
import com.sun.source.tree.NewClassTree;
import com.sun.source.tree.Tree;
import com.sun.source.util.JavacTask;
import com.sun.source.util.TreePath;
import com.sun.source.util.TreePathScanner;
import com.sun.source.util.Trees;
import java.io.IOException;
import java.nio.file.Path;
import java.util.HashMap;
import java.util.HashSet;
import java.util.List;
import java.util.Map;
import java.util.Set;
import java.util.TreeMap;
import java.util.TreeSet;
import javax.lang.model.element.Element;
import javax.lang.model.element.ElementKind;
import javax.lang.model.element.Modifier;
import javax.tools.JavaCompiler;
import javax.tools.StandardJavaFileManager;
import javax.tools.ToolProvider;

/**
 * The rules of ../shared/LANGUAGE.md that need the compiler's own eye: how deep calls go (11), what calls itself (8),
 * which methods of the library are used (4), that rows of constants never change (5), which kinds of code there are
 * (2, 6).
 */
public final class CallsTest {
    private static final Check CHECK = new Check();
    private static final int DEEPEST = 8;
    private static final Set<String> LIBRARY = Set.of("java.lang.String.length()", "java.lang.String.charAt(int)",
        "java.lang.System.arraycopy(java.lang.Object,int,java.lang.Object,int,int)",
        "java.lang.Math.min(int,int)", "java.lang.Math.max(int,int)", "java.lang.Math.min(long,long)",
        "java.lang.Math.max(long,long)", "java.lang.Integer.bitCount(int)", "java.util.Arrays.fill(int[],int)",
        "java.util.Arrays.fill(long[],long)", "java.util.Arrays.copyOf(int[],int)");
    private static final Set<Tree.Kind> BANNED = Set.of(Tree.Kind.THROW, Tree.Kind.TRY, Tree.Kind.CATCH,
        Tree.Kind.SYNCHRONIZED, Tree.Kind.ASSERT, Tree.Kind.LAMBDA_EXPRESSION, Tree.Kind.MEMBER_REFERENCE,
        Tree.Kind.SWITCH_EXPRESSION, Tree.Kind.YIELD, Tree.Kind.ANNOTATION, Tree.Kind.INSTANCE_OF,
        Tree.Kind.FLOAT_LITERAL, Tree.Kind.DOUBLE_LITERAL, Tree.Kind.INTERSECTION_TYPE, Tree.Kind.UNION_TYPE);

    private final Map<String, Set<String>> calls = new TreeMap<>();
    private final Map<String, Integer> deep = new HashMap<>();

    /** Writes down who calls whom, and looks at each kind of code on the way. */
    private final class Looking extends TreePathScanner<Void, Void> {
        private final Trees trees;
        private String in = "a field";

        Looking(Trees trees) {
            this.trees = trees;
        }

        @Override
        public Void scan(Tree tree, Void none) {
            if (tree != null) {
                CHECK.due("kind of code " + tree.getKind(), BANNED.contains(tree.getKind()) ? 1 : 0, 0);
            }
            return super.scan(tree, none);
        }

        private String nameOf(Element e) {
            return e.getEnclosingElement() + "." + e;
        }

        @Override
        public Void visitMethod(MethodTree method, Void none) {
            in = nameOf(trees.getElement(getCurrentPath()));
            calls.putIfAbsent(in, new TreeSet<>());
            super.visitMethod(method, none);
            in = "a field";
            return null;
        }

        private void called(Element to) {
            String name = nameOf(to);
            if (name.startsWith("CoinsWarden")) {
                calls.computeIfAbsent(in, k -> new TreeSet<>()).add(name);
            } else if (to.getKind() == ElementKind.METHOD) {
                CHECK.due("library: " + name, LIBRARY.contains(name) || name.endsWith(".clone()") ? 1 : 0, 1);
            } else {
                CHECK.due("super() alone is another class's: " + name, name.equals("java.lang.Object.Object()") ? 1 : 0, 1);
            }
        }

        @Override
        public Void visitMethodInvocation(MethodInvocationTree call, Void none) {
            called(trees.getElement(getCurrentPath()));
            return super.visitMethodInvocation(call, none);
        }

        @Override
        public Void visitNewClass(NewClassTree made, Void none) {
            called(trees.getElement(getCurrentPath()));
            CHECK.due("no class without a name", made.getClassBody() == null ? 1 : 0, 1);
            return super.visitNewClass(made, none);
        }

        private void changes(ExpressionTree variable) {
            if (variable instanceof ArrayAccessTree place && place.getExpression() instanceof IdentifierTree row) {
                Element e = trees.getElement(new TreePath(getCurrentPath(), row));
                CHECK.due(row + " is no row of constants", e.getModifiers().contains(Modifier.STATIC) ? 1 : 0, 0);
            }
        }

        @Override
        public Void visitAssignment(AssignmentTree put, Void none) {
            changes(put.getVariable());
            return super.visitAssignment(put, none);
        }

        @Override
        public Void visitCompoundAssignment(CompoundAssignmentTree put, Void none) {
            changes(put.getVariable());
            return super.visitCompoundAssignment(put, none);
        }
    }

    private void read() throws IOException {
        JavaCompiler compiler = ToolProvider.getSystemJavaCompiler();
        try (StandardJavaFileManager files = compiler.getStandardFileManager(null, null, null)) {
            JavacTask task = (JavacTask) compiler.getTask(null, files, null, List.of("-proc:none"), null,
                files.getJavaFileObjects(Path.of("src/main/java/CoinsWarden.java")));
            Iterable<? extends CompilationUnitTree> units = task.parse();
            task.analyze();
            for (CompilationUnitTree unit : units) {
                new Looking(Trees.instance(task)).scan(unit, null);
            }
        }
    }

    private boolean reaches(String from, String to, Set<String> seen) {
        for (String next : calls.getOrDefault(from, Set.of())) {
            if (next.equals(to) || seen.add(next) && reaches(next, to, seen)) {
                return true;
            }
        }
        return false;
    }

    private boolean callsItself(String method) {
        return reaches(method, method, new HashSet<>());
    }

    private boolean isOneRecursion(String a, String b) {
        return reaches(a, b, new HashSet<>()) && reaches(b, a, new HashSet<>());
    }

    /** Calls that stand open at once from a method on; all methods of one recursion count as one. */
    private int depth(String method) {
        Integer known = deep.get(method);
        if (known != null) {
            return known;
        }
        int deepest = 0;
        Set<String> alike = new TreeSet<>(Set.of(method));
        for (String other : calls.keySet()) {
            if (isOneRecursion(method, other)) {
                alike.add(other);
            }
        }
        for (String one : alike) {
            for (String next : calls.getOrDefault(one, Set.of())) {
                if (!alike.contains(next)) {
                    deepest = Math.max(deepest, depth(next));
                }
            }
        }
        deep.put(method, deepest + 1);
        return deepest + 1;
    }

    private void look() {
        int found = 0;
        for (String method : calls.keySet()) {
            found++;
            CHECK.due("calls below " + method + " go " + depth(method) + " deep", depth(method) <= DEEPEST ? 1 : 0, 1);
            boolean reads = method.startsWith("CoinsWarden.Reading.read");
            CHECK.due("recursion of " + method, callsItself(method) && !reads ? 1 : 0, 0);
        }
        CHECK.due("methods were found", found > 100 ? 1 : 0, 1);
        CHECK.due("brackets are read by recursion", callsItself("CoinsWarden.Reading.readTest()") ? 1 : 0, 1);
        CHECK.due("the deepest calls are town()'s", depth("CoinsWarden.town(int)"), DEEPEST);
    }

    public static void main(String[] args) throws IOException {
        CallsTest test = new CallsTest();
        test.read();
        test.look();
        CHECK.close("CallsTest");
    }
}
