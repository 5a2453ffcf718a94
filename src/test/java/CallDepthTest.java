import com.sun.source.tree.MethodInvocationTree;
import com.sun.source.tree.MethodTree;
import com.sun.source.tree.NewClassTree;
import com.sun.source.util.JavacTask;
import com.sun.source.util.TreePathScanner;
import com.sun.source.util.Trees;
import java.nio.file.Path;
import java.util.HashSet;
import java.util.LinkedHashMap;
import java.util.List;
import java.util.Map;
import java.util.Set;
import javax.lang.model.element.Element;
import javax.tools.JavaCompiler;
import javax.tools.StandardJavaFileManager;
import javax.tools.ToolProvider;

/** The rule of LANGUAGE.md on how deep calls go; there is no recursion in the class at all. */
public final class CallDepthTest {
    private static final int DEEPEST = 8;
    private static final Checks CHECKS = new Checks();

    private CallDepthTest() {
    }

    public static void main(String[] args) throws Exception {
        Map<Element, Set<Element>> calls = callsOf(Path.of("src/main/java/Unwindlens.java"));
        CHECKS.yes("methods are found", calls.size() > 43);
        for (Element method : calls.keySet()) {
            int depth = depth(method, calls, Set.of());
            CHECKS.yes(method.getEnclosingElement() + "." + method + " goes " + depth + " deep, at most " + DEEPEST,
                    depth <= DEEPEST);
        }
        CHECKS.end("CallDepthTest");
    }

    private static Map<Element, Set<Element>> callsOf(Path source) throws Exception {
        JavaCompiler compiler = ToolProvider.getSystemJavaCompiler();
        Map<Element, Set<Element>> calls = new LinkedHashMap<>();
        try (StandardJavaFileManager files = compiler.getStandardFileManager(null, null, null)) {
            JavacTask task = (JavacTask) compiler.getTask(null, files, null, List.of("-proc:none"), null,
                    files.getJavaFileObjects(source));
            Trees trees = Trees.instance(task);
            var units = task.parse();
            task.analyze();
            new Scanner(trees, calls).scan(units, null);
        }
        for (Set<Element> called : calls.values()) {
            called.retainAll(calls.keySet());
        }
        return calls;
    }

    private static int depth(Element method, Map<Element, Set<Element>> calls, Set<Element> open) {
        if (open.contains(method)) {
            return 1000;
        }
        Set<Element> deeper = new HashSet<>(open);
        deeper.add(method);
        int deepest = 0;
        for (Element called : calls.get(method)) {
            deepest = Math.max(deepest, depth(called, calls, deeper));
        }
        return deepest + 1;
    }

    private static final class Scanner extends TreePathScanner<Void, Void> {
        private final Trees trees;
        private final Map<Element, Set<Element>> calls;
        private Element method;

        Scanner(Trees trees, Map<Element, Set<Element>> calls) {
            this.trees = trees;
            this.calls = calls;
        }

        @Override
        public Void visitMethod(MethodTree tree, Void nothing) {
            method = trees.getElement(getCurrentPath());
            calls.put(method, new HashSet<>());
            super.visitMethod(tree, nothing);
            method = null;
            return null;
        }

        @Override
        public Void visitMethodInvocation(MethodInvocationTree tree, Void nothing) {
            note();
            return super.visitMethodInvocation(tree, nothing);
        }

        @Override
        public Void visitNewClass(NewClassTree tree, Void nothing) {
            note();
            return super.visitNewClass(tree, nothing);
        }

        private void note() {
            if (method != null) {
                calls.get(method).add(trees.getElement(getCurrentPath()));
            }
        }
    }
}
