import com.sun.source.tree.ClassTree;
import com.sun.source.tree.CompilationUnitTree;
import com.sun.source.tree.MethodInvocationTree;
import com.sun.source.tree.MethodTree;
import com.sun.source.tree.NewClassTree;
import com.sun.source.tree.Tree;
import com.sun.source.util.JavacTask;
import com.sun.source.util.TreePathScanner;
import com.sun.source.util.Trees;
import java.io.File;
import java.io.IOException;
import java.util.ArrayDeque;
import java.util.Collections;
import java.util.Deque;
import java.util.LinkedHashMap;
import java.util.LinkedHashSet;
import java.util.List;
import java.util.Map;
import java.util.Set;
import javax.lang.model.element.Element;
import javax.lang.model.element.TypeElement;
import javax.tools.JavaCompiler;
import javax.tools.StandardJavaFileManager;
import javax.tools.ToolProvider;

/** LANGUAGE.md, rules 8 and 11: the class has no recursion, and its calls go at most eight deep. */
public final class CallsTest {
    private static final int DEEPEST = 8;

    private final Due due = new Due("CallsTest");
    /** What each method of the class calls; the library's methods call nothing. */
    private final Map<String, Set<String>> called = new LinkedHashMap<>();
    private final Map<String, Integer> depths = new LinkedHashMap<>();
    private final Deque<String> open = new ArrayDeque<>();

    public static void main(String[] args) throws IOException {
        CallsTest test = new CallsTest();
        test.read(new File("src/main/java/LampRound.java"));
        test.due.yes("methods were found: " + test.called.size(), test.called.size() > 100);
        for (String method : List.copyOf(test.called.keySet())) {
            int depth = test.depth(method);
            test.due.yes(method + " goes " + depth + " deep", depth <= DEEPEST);
        }
        System.out.println("the deepest go " + Collections.max(test.depths.values()) + " deep");
        test.due.close();
    }

    private void read(File source) throws IOException {
        JavaCompiler javac = ToolProvider.getSystemJavaCompiler();
        try (StandardJavaFileManager files = javac.getStandardFileManager(null, null, null)) {
            JavacTask task = (JavacTask) javac.getTask(null, files, null, List.of("-proc:none"), null,
                files.getJavaFileObjects(source));
            Iterable<? extends CompilationUnitTree> units = task.parse();
            task.analyze();
            for (CompilationUnitTree unit : units) new Reader(Trees.instance(task)).scan(unit, null);
        }
    }

    private final class Reader extends TreePathScanner<Void, String> {
        private final Trees trees;

        Reader(Trees trees) {
            this.trees = trees;
        }

        @Override
        public Void visitClass(ClassTree tree, String in) {
            String owner = trees.getElement(getCurrentPath()).toString();
            // What fields begin with is made when a constructor runs.
            for (Tree member : tree.getMembers()) scan(member, owner + ".new");
            return null;
        }

        @Override
        public Void visitMethod(MethodTree tree, String in) {
            String name = name(trees.getElement(getCurrentPath()));
            called.computeIfAbsent(name, n -> new LinkedHashSet<>());
            return super.visitMethod(tree, name);
        }

        @Override
        public Void visitMethodInvocation(MethodInvocationTree tree, String in) {
            call(in);
            return super.visitMethodInvocation(tree, in);
        }

        @Override
        public Void visitNewClass(NewClassTree tree, String in) {
            call(in);
            return super.visitNewClass(tree, in);
        }

        private void call(String in) {
            called.computeIfAbsent(in, n -> new LinkedHashSet<>()).add(name(trees.getElement(getCurrentPath())));
        }

        private static String name(Element method) {
            String owner = ((TypeElement) method.getEnclosingElement()).getQualifiedName().toString();
            String name = method.getSimpleName().toString();
            return owner + "." + (name.equals("<init>") ? "new" : name);
        }
    }

    /** How many calls stand open at once when that method is called; its own is one. */
    private int depth(String method) {
        if (open.contains(method)) {
            due.yes(method + " calls itself: " + open, false);
            return 0;
        }
        Integer known = depths.get(method);
        if (known != null) return known;
        open.push(method);
        int most = 0;
        for (String next : called.getOrDefault(method, Set.of())) most = Math.max(most, depth(next));
        open.pop();
        depths.put(method, most + 1);
        return most + 1;
    }
}
