import com.sun.source.tree.ClassTree;
import com.sun.source.tree.CompilationUnitTree;
import com.sun.source.tree.MethodInvocationTree;
import com.sun.source.tree.MethodTree;
import com.sun.source.tree.NewClassTree;
import com.sun.source.util.JavacTask;
import com.sun.source.util.TreePath;
import com.sun.source.util.TreePathScanner;
import com.sun.source.util.Trees;
import java.io.IOException;
import java.nio.file.Path;
import java.util.ArrayList;
import java.util.List;
import java.util.Map;
import java.util.Set;
import java.util.TreeMap;
import java.util.TreeSet;
import javax.lang.model.element.Element;
import javax.lang.model.element.Modifier;
import javax.tools.JavaCompiler;
import javax.tools.StandardJavaFileManager;
import javax.tools.ToolProvider;

/** LANGUAGE.md, rules 8 and 11: how deep calls go; to be run from the project's own folder. */
public final class DepthTest {
    private static final Check CHECK = new Check();
    private static final int MOST_DEEP = 8;
    /** By the calling method; each bears its class's name and its parameters' types. */
    private static final Map<String, Set<String>> CALLS = new TreeMap<>();
    private static final Set<String> FACE = new TreeSet<>();
    private static final Set<String> PRIVATE = new TreeSet<>();

    public static void main(String[] args) throws IOException {
        readCalls(Path.of("src/main/java/TurnedIsland.java"));
        CHECK.yes(FACE.size() + " public methods and the constructor were seen", FACE.size() == 32);
        for (String method : FACE) {
            List<String> chain = longestFrom(method, new ArrayList<>());
            CHECK.yes(chain.size() + " deep: " + chain, chain.size() <= MOST_DEEP);
        }
        recursion();
        CHECK.close();
    }

    private static void readCalls(Path file) throws IOException {
        JavaCompiler compiler = ToolProvider.getSystemJavaCompiler();
        try (StandardJavaFileManager files = compiler.getStandardFileManager(null, null, null)) {
            JavacTask task = (JavacTask) compiler.getTask(null, files, null, null, null,
                    files.getJavaFileObjects(file));
            Iterable<? extends CompilationUnitTree> units = task.parse();
            task.analyze();
            Trees trees = Trees.instance(task);
            for (CompilationUnitTree unit : units) {
                new Reader(trees).scan(unit, null);
            }
        }
    }

    /** Takes down which method calls which; what the library does inside is not seen. */
    private static final class Reader extends TreePathScanner<Void, String> {
        private final Trees trees;

        Reader(Trees trees) {
            this.trees = trees;
        }

        private static String nameOf(Element e) {
            return e.getEnclosingElement().getSimpleName() + "." + e;
        }

        private void call(TreePath path, String from) {
            Element e = trees.getElement(path);
            if (e != null && from != null) {
                CALLS.computeIfAbsent(from, f -> new TreeSet<>()).add(nameOf(e));
            }
        }

        @Override
        public Void visitClass(ClassTree tree, String from) {
            // What stands at the fields is done by the class's constructor.
            String name = tree.getSimpleName().toString();
            return super.visitClass(tree, name + "." + name + "()");
        }

        @Override
        public Void visitMethod(MethodTree tree, String from) {
            Element e = trees.getElement(getCurrentPath());
            CALLS.computeIfAbsent(nameOf(e), f -> new TreeSet<>());
            if (e.getModifiers().contains(Modifier.PUBLIC)) {
                FACE.add(nameOf(e));
            }
            if (e.getModifiers().contains(Modifier.PRIVATE)) {
                PRIVATE.add(nameOf(e));
            }
            return super.visitMethod(tree, nameOf(e));
        }

        @Override
        public Void visitMethodInvocation(MethodInvocationTree tree, String from) {
            call(getCurrentPath(), from);
            return super.visitMethodInvocation(tree, from);
        }

        @Override
        public Void visitNewClass(NewClassTree tree, String from) {
            call(getCurrentPath(), from);
            return super.visitNewClass(tree, from);
        }
    }

    /** The longest chain in which no method stands twice, the library's own method at its end among them. */
    private static List<String> longestFrom(String method, List<String> open) {
        List<String> longest = new ArrayList<>();
        open.add(method);
        for (String next : CALLS.getOrDefault(method, Set.of())) {
            if (!open.contains(next)) {
                List<String> chain = longestFrom(next, open);
                if (chain.size() > longest.size()) {
                    longest = chain;
                }
            }
        }
        open.remove(open.size() - 1);
        List<String> chain = new ArrayList<>(List.of(method));
        chain.addAll(longest);
        return chain;
    }

    /** A method that comes back to itself, by whatever way, must be private, and some are looked for. */
    private static void recursion() {
        int found = 0;
        for (String method : CALLS.keySet()) {
            if (reaches(method, method, new TreeSet<>())) {
                found++;
                CHECK.yes(method + " calls itself and is private", PRIVATE.contains(method));
            }
        }
        CHECK.yes("methods that call themselves were seen", found > 0);
    }

    private static boolean reaches(String from, String to, Set<String> seen) {
        for (String next : CALLS.getOrDefault(from, Set.of())) {
            if (next.equals(to) || seen.add(next) && reaches(next, to, seen)) {
                return true;
            }
        }
        return false;
    }
}
