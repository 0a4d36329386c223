import com.sun.source.tree.CompilationUnitTree;
import com.sun.source.tree.MethodInvocationTree;
import com.sun.source.tree.MethodTree;
import com.sun.source.tree.NewClassTree;
import com.sun.source.util.JavacTask;
import com.sun.source.util.TreePathScanner;
import com.sun.source.util.Trees;
import java.io.IOException;
import java.nio.file.Path;
import java.util.HashMap;
import java.util.HashSet;
import java.util.LinkedHashMap;
import java.util.Map;
import java.util.Set;
import javax.lang.model.element.Element;
import javax.tools.JavaCompiler;
import javax.tools.StandardJavaFileManager;
import javax.tools.ToolProvider;

/** Rule 11 of LANGUAGE.md: calls that are no recursion go at most eight deep. Read from the source's calls. */
public final class CallDepthTest {
    private static final Path SOURCE = Path.of("src/main/java/ViewsJoins.java");
    private static final int MOST = 8;

    private static final Check check = new Check();
    private static final Map<Element, Set<Element>> calls = new LinkedHashMap<>();
    private static final Map<Element, Integer> depths = new HashMap<>();

    public static void main(String[] args) throws IOException {
        check.at("rule 11, the depth of calls");
        readCalls();
        check.holds("methods were found", calls.size() > 18);
        for (Element method : calls.keySet()) {
            int depth = depth(method);
            check.holds(method + " goes " + depth + " deep", depth <= MOST);
        }
        check.end();
    }

    private static void readCalls() throws IOException {
        JavaCompiler compiler = ToolProvider.getSystemJavaCompiler();
        try (StandardJavaFileManager files = compiler.getStandardFileManager(null, null, null)) {
            JavacTask task = (JavacTask) compiler.getTask(null, files, null, null, null,
                files.getJavaFileObjects(SOURCE));
            Trees trees = Trees.instance(task);
            Iterable<? extends CompilationUnitTree> units = task.parse();
            task.analyze();
            for (CompilationUnitTree unit : units) {
                new CallReader(trees).scan(unit, null);
            }
        }
        // The library's own methods are none of ours.
        for (Set<Element> called : calls.values()) {
            called.retainAll(calls.keySet());
        }
    }

    private static final class CallReader extends TreePathScanner<Void, Element> {
        private final Trees trees;

        CallReader(Trees trees) {
            this.trees = trees;
        }

        @Override
        public Void visitMethod(MethodTree tree, Element outer) {
            Element method = trees.getElement(getCurrentPath());
            calls.put(method, new HashSet<>());
            return super.visitMethod(tree, method);
        }

        @Override
        public Void visitMethodInvocation(MethodInvocationTree tree, Element from) {
            note(from);
            return super.visitMethodInvocation(tree, from);
        }

        @Override
        public Void visitNewClass(NewClassTree tree, Element from) {
            note(from);
            return super.visitNewClass(tree, from);
        }

        private void note(Element from) {
            if (from != null) {
                calls.get(from).add(trees.getElement(getCurrentPath()));
            }
        }
    }

    /** Of methods that call one another in a ring, each counts once, as a call that is no recursion. */
    private static int depth(Element method) {
        Integer known = depths.get(method);
        if (known != null) {
            return known;
        }
        Set<Element> ring = new HashSet<>(reached(method));
        ring.removeIf(other -> !reached(other).contains(method));
        ring.add(method);
        int deepest = 0;
        for (Element one : ring) {
            for (Element called : calls.get(one)) {
                if (!ring.contains(called)) {
                    deepest = Math.max(deepest, depth(called));
                }
            }
        }
        depths.put(method, deepest + 1);
        return deepest + 1;
    }

    private static Set<Element> reached(Element method) {
        Set<Element> seen = new HashSet<>(calls.get(method));
        boolean grown = true;
        while (grown) {
            Set<Element> more = new HashSet<>(seen);
            for (Element one : seen) {
                more.addAll(calls.get(one));
            }
            grown = more.size() > seen.size();
            seen = more;
        }
        return seen;
    }
}
