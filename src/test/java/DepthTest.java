import com.sun.source.tree.CompilationUnitTree;
import com.sun.source.tree.MethodInvocationTree;
import com.sun.source.tree.MethodTree;
import com.sun.source.tree.NewClassTree;
import com.sun.source.tree.Tree;
import com.sun.source.util.JavacTask;
import com.sun.source.util.TreePathScanner;
import com.sun.source.util.Trees;
import java.io.IOException;
import java.nio.file.Path;
import java.util.HashMap;
import java.util.LinkedHashSet;
import java.util.List;
import java.util.Map;
import java.util.Set;
import javax.lang.model.element.Element;
import javax.lang.model.element.TypeElement;
import javax.tools.JavaCompiler;
import javax.tools.StandardJavaFileManager;
import javax.tools.ToolProvider;

/** Rules 8 and 11 of LANGUAGE.md: which method calls which, as the compiler reads them, and how deep that goes. */
public final class DepthTest {
    private static final Path SOURCE = Path.of("src/main/java/SwallowSurvey.java");
    private static final int MOST_DEEP = 8;
    private static final Map<Element, Set<Element>> CALLS = new HashMap<>();
    private static final Map<Element, Integer> DEPTHS = new HashMap<>();
    private static int wrong = 0;

    public static void main(String[] args) throws IOException {
        JavaCompiler compiler = ToolProvider.getSystemJavaCompiler();
        try (StandardJavaFileManager files = compiler.getStandardFileManager(null, null, null)) {
            JavacTask task = (JavacTask) compiler.getTask(null, files, null, List.of("-proc:none"), null,
                    files.getJavaFileObjects(SOURCE));
            Iterable<? extends CompilationUnitTree> units = task.parse();
            task.analyze();
            for (CompilationUnitTree unit : units) {
                new Caller(Trees.instance(task)).scan(unit, null);
            }
        }
        int deepest = 0;
        for (Element method : CALLS.keySet()) {
            deepest = Math.max(deepest, depth(method, new LinkedHashSet<>()));
        }
        if (CALLS.size() < 30 || deepest < 2 || deepest > MOST_DEEP) {
            wrong++;
            System.out.println(CALLS.size() + " methods, calls " + deepest + " deep, at most " + MOST_DEEP);
        }
        System.out.println(wrong == 0 ? "calls go " + deepest + " deep" : wrong + " rules are not kept");
        if (wrong != 0) {
            System.exit(1);
        }
    }

    private static int depth(Element method, Set<Element> open) {
        if (!open.add(method)) {
            wrong++;
            System.out.println("calls itself: " + method + ", by " + open);
            return 0;
        }
        Integer known = DEPTHS.get(method);
        if (known == null) {
            known = 1;
            for (Element called : CALLS.getOrDefault(method, Set.of())) {
                known = Math.max(known, 1 + depth(called, open));
            }
            DEPTHS.put(method, known);
        }
        open.remove(method);
        return known;
    }

    /** Calls of the class's own methods and constructors alone: what the library does is its own. */
    private static final class Caller extends TreePathScanner<Void, Element> {
        private final Trees trees;

        Caller(Trees trees) {
            this.trees = trees;
        }

        @Override
        public Void visitMethod(MethodTree tree, Element outer) {
            Element method = trees.getElement(getCurrentPath());
            CALLS.putIfAbsent(method, new LinkedHashSet<>());
            return super.visitMethod(tree, method);
        }

        @Override
        public Void visitMethodInvocation(MethodInvocationTree tree, Element method) {
            note(tree.getMethodSelect(), method);
            return super.visitMethodInvocation(tree, method);
        }

        @Override
        public Void visitNewClass(NewClassTree tree, Element method) {
            note(tree, method);
            return super.visitNewClass(tree, method);
        }

        private void note(Tree call, Element method) {
            Element called = trees.getElement(new com.sun.source.util.TreePath(getCurrentPath(), call));
            if (method == null || called == null) {
                return;
            }
            Element owner = called.getEnclosingElement();
            boolean own = owner instanceof TypeElement type
                    && type.getQualifiedName().toString().startsWith("SwallowSurvey");
            if (own) {
                CALLS.get(method).add(called);
            }
        }
    }
}
