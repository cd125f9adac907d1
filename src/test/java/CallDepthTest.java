import com.sun.source.tree.CompilationUnitTree;
import com.sun.source.tree.MethodInvocationTree;
import com.sun.source.tree.MethodTree;
import com.sun.source.tree.NewClassTree;
import com.sun.source.tree.Tree;
import com.sun.source.util.JavacTask;
import com.sun.source.util.SourcePositions;
import com.sun.source.util.TreePathScanner;
import com.sun.source.util.Trees;
import java.io.IOException;
import java.nio.file.Path;
import java.util.HashMap;
import java.util.HashSet;
import java.util.List;
import java.util.Map;
import java.util.Set;
import javax.lang.model.element.Element;
import javax.tools.JavaCompiler;
import javax.tools.StandardJavaFileManager;
import javax.tools.ToolProvider;

/** LANGUAGE.md's rules 8 and 11: calls go at most eight deep without recursion, and methods stay short. */
public final class CallDepthTest {
    private static final int DEEPEST = 8;
    private static final int LONGEST = 60;
    private static final Check check = new Check("CallDepthTest");
    private static final Map<Element, Set<Element>> calls = new HashMap<>();

    public static void main(String[] args) throws IOException {
        JavaCompiler compiler = ToolProvider.getSystemJavaCompiler();
        try (StandardJavaFileManager files = compiler.getStandardFileManager(null, null, null)) {
            JavacTask task = (JavacTask) compiler.getTask(null, files, null, List.of("-proc:none"), null,
                    files.getJavaFileObjects(Path.of("src/main/java/CryOrder.java")));
            Iterable<? extends CompilationUnitTree> units = task.parse();
            task.analyze();
            for (CompilationUnitTree unit : units) {
                new Methods(unit, Trees.instance(task)).scan(unit, null);
            }
        }
        check.due("methods were found", calls.size() > 17, true);
        for (Element method : calls.keySet()) {
            int depth = depth(method, new HashSet<>());
            check.due(method + " goes " + depth + " deep", depth <= DEEPEST, true);
        }
        check.end();
    }

    /** A call of the library counts as one level, and a recursion as more than may be. */
    private static int depth(Element method, Set<Element> open) {
        if (!calls.containsKey(method)) {
            return 1;
        }
        if (!open.add(method)) {
            return DEEPEST + 1;
        }
        int deepest = 0;
        for (Element called : calls.get(method)) {
            deepest = Math.max(deepest, depth(called, open));
        }
        open.remove(method);
        return deepest + 1;
    }

    private static final class Methods extends TreePathScanner<Void, Void> {
        private final CompilationUnitTree unit;
        private final Trees trees;
        private Element inside;

        Methods(CompilationUnitTree unit, Trees trees) {
            this.unit = unit;
            this.trees = trees;
        }

        @Override
        public Void visitMethod(MethodTree method, Void unused) {
            inside = trees.getElement(getCurrentPath());
            calls.put(inside, new HashSet<>());
            check.due(inside + " is short", lines(method) <= LONGEST, true);
            super.visitMethod(method, unused);
            inside = null;
            return null;
        }

        @Override
        public Void visitMethodInvocation(MethodInvocationTree call, Void unused) {
            note();
            return super.visitMethodInvocation(call, unused);
        }

        @Override
        public Void visitNewClass(NewClassTree made, Void unused) {
            note();
            return super.visitNewClass(made, unused);
        }

        private void note() {
            if (inside != null) {
                calls.get(inside).add(trees.getElement(getCurrentPath()));
            }
        }

        private long lines(Tree tree) {
            SourcePositions at = trees.getSourcePositions();
            return unit.getLineMap().getLineNumber(at.getEndPosition(unit, tree))
                    - unit.getLineMap().getLineNumber(at.getStartPosition(unit, tree)) + 1;
        }
    }
}
