import com.sun.source.tree.ClassTree;
import com.sun.source.tree.CompilationUnitTree;
import com.sun.source.tree.LineMap;
import com.sun.source.tree.MethodInvocationTree;
import com.sun.source.tree.MethodTree;
import com.sun.source.tree.NewClassTree;
import com.sun.source.tree.Tree;
import com.sun.source.tree.VariableTree;
import com.sun.source.util.JavacTask;
import com.sun.source.util.TreePathScanner;
import com.sun.source.util.Trees;
import java.nio.file.Path;
import java.util.LinkedHashMap;
import java.util.LinkedHashSet;
import java.util.List;
import java.util.Map;
import java.util.Set;
import java.util.TreeSet;
import javax.lang.model.element.Element;
import javax.lang.model.element.Modifier;
import javax.tools.JavaCompiler;
import javax.tools.StandardJavaFileManager;
import javax.tools.ToolProvider;

/**
 * What LANGUAGE.md says in numbers (rules 8 and 11): how deep calls go, and how large methods and
 * classes are; and that the program calls nothing of the library but what rule 4 lists. .ci/run
 * starts it in the project's folder, so the program's file is found there.
 */
public final class LanguageTest {
    private static final Path PROGRAM = Path.of("src", "main", "java", "RuleReader.java");
    private static final int MOST_CALLS = 8;
    private static final int MOST_PARAMETERS = 7;
    private static final int MOST_LINES = 60;
    private static final int MOST_CLASSES = 12;
    private static final int MOST_FIELDS = 20;
    private static final int MOST_OPEN = 300;
    // The document's 40, and the one that refuses to go deeper.
    private static final int MOST_LEVELS = 41;
    // What the program uses of rules 4 and 6, and what Java's compiler adds to constructors.
    private static final Set<String> LIBRARY = Set.of("String.length()", "String.charAt(int)",
            "Math.max(int,int)", "Math.min(int,int)", "Object.Object()",
            "Enum.Enum(java.lang.String,int)",
            "IllegalStateException.IllegalStateException(java.lang.String)",
            "IllegalArgumentException.IllegalArgumentException(java.lang.String)",
            "UnsupportedOperationException.UnsupportedOperationException(java.lang.String)",
            "IndexOutOfBoundsException.IndexOutOfBoundsException(java.lang.String)");

    private LanguageTest() {
    }

    public static void main(String[] args) throws Exception {
        JavaCompiler compiler = ToolProvider.getSystemJavaCompiler();
        try (StandardJavaFileManager files = compiler.getStandardFileManager(null, null, null)) {
            JavacTask task = (JavacTask) compiler.getTask(null, files, null,
                    List.of("-proc:none", "-implicit:none"), null, files.getJavaFileObjects(PROGRAM));
            CompilationUnitTree unit = task.parse().iterator().next();
            task.analyze();
            Program program = new Program(Trees.instance(task), unit);
            program.scan(unit, null);
            sizes(program);
            calls(program);
            library(program);
        }
        Check.end();
    }

    private static void sizes(Program program) {
        atMost("classes of the file", program.fields.size(), MOST_CLASSES);
        program.fields.forEach((name, count) -> atMost("fields of " + name, count, MOST_FIELDS));
        program.lines.forEach((name, count) -> atMost("lines of " + name, count, MOST_LINES));
        program.parameters.forEach((name, count) -> atMost("parameters of " + name, count, MOST_PARAMETERS));
    }

    private static void calls(Program program) {
        Check.same("a call that reads", longestFrom(program.calls, "RuleReader.read()").size() > 3, true);
        for (String method : program.face) {
            List<String> chain = longestFrom(program.calls, method);
            atMost("calls in " + String.join(" > ", chain), chain.size(), MOST_CALLS);
        }
        Map<String, Set<String>> recursive = new LinkedHashMap<>(program.calls);
        recursive.keySet().removeIf(method -> !callsItself(program.calls, method));
        recursive.replaceAll((method, called) -> intersection(called, recursive.keySet()));
        for (String method : recursive.keySet()) {
            // A level has each method of the recursion once at most.
            int level = longestFrom(recursive, method).size();
            atMost("calls open at once through " + method, level * MOST_LEVELS + MOST_CALLS, MOST_OPEN);
        }
    }

    private static void library(Program program) {
        Set<String> outside = new TreeSet<>();
        program.calls.values().forEach(outside::addAll);
        outside.removeAll(program.calls.keySet());
        outside.removeAll(LIBRARY);
        Check.same("called beside the program's own and the library's", outside.toString(), "[]");
    }

    private static Set<String> intersection(Set<String> one, Set<String> other) {
        Set<String> both = new LinkedHashSet<>(one);
        both.retainAll(other);
        return both;
    }

    private static List<String> longestFrom(Map<String, Set<String>> calls, String method) {
        return longest(calls, method, new LinkedHashSet<>());
    }

    /** The longest chain of calls from the method on that has each method once. */
    private static List<String> longest(Map<String, Set<String>> calls, String method, Set<String> open) {
        open.add(method);
        List<String> best = List.copyOf(open);
        for (String called : calls.getOrDefault(method, Set.of())) {
            if (!open.contains(called)) {
                List<String> chain = longest(calls, called, open);
                best = chain.size() > best.size() ? chain : best;
            }
        }
        open.remove(method);
        return best;
    }

    private static boolean callsItself(Map<String, Set<String>> calls, String method) {
        Set<String> reached = new LinkedHashSet<>();
        reach(calls, method, reached);
        return reached.contains(method);
    }

    private static void reach(Map<String, Set<String>> calls, String method, Set<String> reached) {
        for (String called : calls.getOrDefault(method, Set.of())) {
            if (reached.add(called)) {
                reach(calls, called, reached);
            }
        }
    }

    private static void atMost(String what, long got, long most) {
        Check.same(what + " (" + got + ") are at most " + most, got <= most, true);
    }

    /** What is counted of the program's file. */
    private static final class Program extends TreePathScanner<Void, Void> {
        private final Trees trees;
        private final CompilationUnitTree unit;
        private final Map<String, Integer> fields = new LinkedHashMap<>();
        private final Map<String, Integer> lines = new LinkedHashMap<>();
        private final Map<String, Integer> parameters = new LinkedHashMap<>();
        private final Map<String, Set<String>> calls = new LinkedHashMap<>();
        private final Set<String> face = new LinkedHashSet<>();
        private String method = "";

        Program(Trees trees, CompilationUnitTree unit) {
            this.trees = trees;
            this.unit = unit;
        }

        @Override
        public Void visitClass(ClassTree tree, Void nothing) {
            int count = 0;
            for (Tree member : tree.getMembers()) {
                if (member instanceof VariableTree field
                        && !field.getModifiers().getFlags().contains(Modifier.STATIC)) {
                    count++;
                }
            }
            fields.put(tree.getSimpleName().toString(), count);
            return super.visitClass(tree, nothing);
        }

        @Override
        public Void visitMethod(MethodTree tree, Void nothing) {
            method = nameOf(trees.getElement(getCurrentPath()));
            calls.put(method, new LinkedHashSet<>());
            if (tree.getModifiers().getFlags().contains(Modifier.PUBLIC)) {
                face.add(method);
            }
            parameters.put(method, tree.getParameters().size());
            LineMap map = unit.getLineMap();
            long first = map.getLineNumber(trees.getSourcePositions().getStartPosition(unit, tree));
            long end = trees.getSourcePositions().getEndPosition(unit, tree);
            lines.put(method, end < 0 ? 0 : (int) (map.getLineNumber(end) - first + 1));
            super.visitMethod(tree, nothing);
            method = "";
            return null;
        }

        @Override
        public Void visitMethodInvocation(MethodInvocationTree tree, Void nothing) {
            addCall();
            return super.visitMethodInvocation(tree, nothing);
        }

        @Override
        public Void visitNewClass(NewClassTree tree, Void nothing) {
            addCall();
            return super.visitNewClass(tree, nothing);
        }

        private void addCall() {
            Element called = trees.getElement(getCurrentPath());
            if (called != null && calls.containsKey(method)) {
                calls.get(method).add(nameOf(called));
            }
        }

        private static String nameOf(Element method) {
            return method.getEnclosingElement().getSimpleName() + "." + method;
        }
    }
}
