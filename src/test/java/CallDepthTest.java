import com.sun.source.tree.CompilationUnitTree;
import com.sun.source.tree.MethodInvocationTree;
import com.sun.source.tree.MethodTree;
import com.sun.source.util.JavacTask;
import com.sun.source.util.TreePath;
import com.sun.source.util.TreePathScanner;
import com.sun.source.util.Trees;
import java.io.IOException;
import java.nio.file.Path;
import java.util.ArrayList;
import java.util.HashSet;
import java.util.LinkedHashMap;
import java.util.LinkedHashSet;
import java.util.List;
import java.util.Map;
import java.util.Set;
import javax.lang.model.element.Element;
import javax.tools.JavaCompiler;
import javax.tools.StandardJavaFileManager;
import javax.tools.ToolProvider;

/** Rule 11 of LANGUAGE.md: calls that are no recursion go eight deep at most. Asks the compiler who calls whom. */
public final class CallDepthTest {
    private static final Due due = new Due("CallDepthTest");
    private static final Map<Element, Set<Element>> calls = new LinkedHashMap<>();

    public static void main(String[] args) throws IOException {
        read();
        due.holds("methods were found", calls.size() > 100);
        Map<Element, Set<Element>> reached = new LinkedHashMap<>();
        for (Element method : calls.keySet()) {
            Set<Element> all = new HashSet<>();
            reach(method, all);
            reached.put(method, all);
        }
        Set<String> recursive = new LinkedHashSet<>();
        for (Element method : calls.keySet()) {
            if (reached.get(method).contains(method)) {
                recursive.add(method.getSimpleName().toString());
            }
            List<Element> chain = deepest(method, reached);
            due.holds(chain + " goes eight deep at most", chain.size() <= 8);
        }
        due.holds("those that call themselves are known: " + recursive, recursive.equals(Set.of("search", "readChain",
            "readOperand", "readInner", "readSigned", "call", "runLine", "runUnder")));
        due.end();
    }

    private static void read() throws IOException {
        JavaCompiler compiler = ToolProvider.getSystemJavaCompiler();
        try (StandardJavaFileManager files = compiler.getStandardFileManager(null, null, null)) {
            JavacTask task = (JavacTask) compiler.getTask(null, files, null, null, null,
                files.getJavaFileObjects(Path.of("src/main/java/KinkStreet.java")));
            Iterable<? extends CompilationUnitTree> units = task.parse();
            task.analyze();
            Trees trees = Trees.instance(task);
            for (CompilationUnitTree unit : units) {
                new Callers(trees).scan(unit, null);
            }
        }
        for (Set<Element> called : calls.values()) {
            called.retainAll(calls.keySet());
        }
    }

    private static final class Callers extends TreePathScanner<Void, Element> {
        private final Trees trees;

        Callers(Trees trees) {
            this.trees = trees;
        }

        @Override
        public Void visitMethod(MethodTree method, Element outer) {
            Element own = trees.getElement(getCurrentPath());
            calls.put(own, new LinkedHashSet<>());
            return super.visitMethod(method, own);
        }

        @Override
        public Void visitMethodInvocation(MethodInvocationTree call, Element caller) {
            if (caller != null) {
                calls.get(caller).add(trees.getElement(new TreePath(getCurrentPath(), call.getMethodSelect())));
            }
            return super.visitMethodInvocation(call, caller);
        }
    }

    private static void reach(Element from, Set<Element> all) {
        for (Element next : calls.get(from)) {
            if (all.add(next)) {
                reach(next, all);
            }
        }
    }

    private static List<Element> deepest(Element from, Map<Element, Set<Element>> reached) {
        List<Element> best = new ArrayList<>();
        for (Element next : calls.get(from)) {
            if (!reached.get(next).contains(from)) {
                List<Element> chain = deepest(next, reached);
                best = chain.size() > best.size() ? chain : best;
            }
        }
        best.add(0, from);
        return best;
    }
}
