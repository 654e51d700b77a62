import com.sun.source.tree.CompilationUnitTree;
import com.sun.source.tree.MethodInvocationTree;
import com.sun.source.tree.MethodTree;
import com.sun.source.tree.NewClassTree;
import com.sun.source.tree.Tree;
import com.sun.source.util.JavacTask;
import com.sun.source.util.TreePath;
import com.sun.source.util.TreePathScanner;
import com.sun.source.util.Trees;
import java.io.IOException;
import java.nio.file.Path;
import java.util.HashMap;
import java.util.LinkedHashSet;
import java.util.List;
import java.util.Map;
import java.util.Set;
import javax.lang.model.element.Element;
import javax.lang.model.element.ElementKind;
import javax.tools.JavaCompiler;
import javax.tools.StandardJavaFileManager;
import javax.tools.ToolProvider;

/** LANGUAGE.md, rules 4, 8 and 11: what the class calls of the library, and how deep its calls go, as javac sees it. */
public final class CallsTest {
    private static final int MOST_DEEP = 8;
    private static final Set<String> LIBRARY = Set.of("Object.Object", "String.length", "String.charAt", "Math.max",
            "Math.min", "Integer.bitCount", "Long.bitCount", "System.arraycopy");

    private final Map<String, Set<String>> calls = new HashMap<>();
    private final Map<String, Integer> depths = new HashMap<>();

    public static void main(String[] args) throws IOException {
        CallsTest test = new CallsTest();
        test.read(Path.of(System.getProperty("project.root", "."), "src/main/java/EdgeWalk.java"));
        Check.due("methods are seen", test.calls.size() > 100 ? 1 : 0, 1);
        for (String method : List.copyOf(test.calls.keySet())) {
            int deep = test.depthOf(method, new LinkedHashSet<>());
            Check.due(method + " goes " + deep + " deep", deep <= MOST_DEEP ? 1 : 0, 1);
        }
        Check.finish();
    }

    private void read(Path source) throws IOException {
        JavaCompiler compiler = ToolProvider.getSystemJavaCompiler();
        try (StandardJavaFileManager files = compiler.getStandardFileManager(null, null, null)) {
            JavacTask task = (JavacTask) compiler.getTask(null, files, null, List.of("-proc:none"), null,
                    files.getJavaFileObjects(source));
            Iterable<? extends CompilationUnitTree> units = task.parse();
            task.analyze();
            Scanner scanner = new Scanner(Trees.instance(task));
            units.forEach(unit -> scanner.scan(new TreePath(unit), null));
        }
    }

    /** How many methods stand open at once from this one on, itself the first; library calls count too. */
    private int depthOf(String method, Set<String> open) {
        if (!open.add(method)) {
            Check.due("recursion: " + open + " and " + method, 1, 0);
            return 0;
        }
        Integer known = depths.get(method);
        int deepest = 0;
        for (String next : known == null ? calls.getOrDefault(method, Set.of()) : Set.<String>of()) {
            deepest = Math.max(deepest, depthOf(next, open));
        }
        open.remove(method);
        depths.putIfAbsent(method, deepest + 1);
        return depths.get(method);
    }

    private final class Scanner extends TreePathScanner<Void, Void> {
        private final Trees trees;

        Scanner(Trees trees) {
            this.trees = trees;
        }

        @Override
        public Void visitMethodInvocation(MethodInvocationTree node, Void nothing) {
            called(trees.getElement(getCurrentPath()));
            return super.visitMethodInvocation(node, nothing);
        }

        @Override
        public Void visitNewClass(NewClassTree node, Void nothing) {
            called(trees.getElement(getCurrentPath()));
            return super.visitNewClass(node, nothing);
        }

        private void called(Element callee) {
            Element owner = callee.getEnclosingElement();
            String name = owner.getSimpleName() + "."
                    + (callee.getKind() == ElementKind.CONSTRUCTOR ? owner.getSimpleName() : callee.getSimpleName());
            boolean own = owner.toString().startsWith("EdgeWalk");
            Check.due("the library has it in LANGUAGE.md: " + name, own || LIBRARY.contains(name) ? 1 : 0, 1);
            calls.computeIfAbsent(callerOf(), k -> new LinkedHashSet<>()).add(own ? name : "library");
        }

        /** What a field's first value calls, the constructor calls. */
        private String callerOf() {
            String method = null;
            for (TreePath path = getCurrentPath(); path != null; path = path.getParentPath()) {
                if (path.getLeaf().getKind() == Tree.Kind.METHOD && method == null) {
                    method = ((MethodTree) path.getLeaf()).getName().toString();
                } else if (path.getLeaf().getKind() == Tree.Kind.CLASS) {
                    String owner = trees.getElement(path).getSimpleName().toString();
                    return owner + "." + (method == null || method.equals("<init>") ? owner : method);
                }
            }
            return "";
        }
    }
}
