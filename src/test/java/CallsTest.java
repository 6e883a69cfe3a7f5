import com.sun.source.tree.CompilationUnitTree;
import com.sun.source.tree.MethodInvocationTree;
import com.sun.source.tree.MethodTree;
import com.sun.source.tree.NewClassTree;
import com.sun.source.util.JavacTask;
import com.sun.source.util.TreePathScanner;
import com.sun.source.util.Trees;
import java.io.IOException;
import java.nio.file.Path;
import java.util.ArrayList;
import java.util.LinkedHashSet;
import java.util.List;
import java.util.Map;
import java.util.Set;
import java.util.TreeMap;
import java.util.TreeSet;
import javax.lang.model.element.Element;
import javax.tools.JavaCompiler;
import javax.tools.StandardJavaFileManager;
import javax.tools.ToolProvider;

/**
 * Which method of the class calls which one: of the library only what ../shared/LANGUAGE.md lists (rule 4), no method
 * itself again (rule 8: there is nothing to descend into), and at most eight deep (rule 11).
 */
public final class CallsTest {
    private static final Check T = new Check();
    private static final Path SOURCE = Path.of("src/main/java/RayLayers.java");
    private static final int MOST_DEEP = 8;
    private static final Set<String> LIBRARY = new TreeSet<>(List.of(
            "java.lang.IllegalArgumentException.IllegalArgumentException(java.lang.String)",
            "java.lang.IllegalStateException.IllegalStateException(java.lang.String)",
            "java.lang.IndexOutOfBoundsException.IndexOutOfBoundsException(java.lang.String)",
            "java.util.NoSuchElementException.NoSuchElementException(java.lang.String)",
            "java.lang.Math.max(int,int)", "java.lang.Math.max(long,long)", "java.lang.Math.min(int,int)", "java.lang.Math.min(long,long)",
            "java.lang.Object.Object()", "java.lang.String.charAt(int)", "java.lang.String.length()",
            "java.lang.System.arraycopy(java.lang.Object,int,java.lang.Object,int,int)", "java.util.Arrays.fill(int[],int)"));

    /** What each method or constructor calls. */
    private final Map<String, Set<String>> called = new TreeMap<>();
    private final Map<String, List<String>> deepest = new TreeMap<>();

    private CallsTest() {
    }

    public static void main(String[] args) throws IOException {
        CallsTest test = new CallsTest();
        test.read();
        test.library();
        test.depths();
        T.close("CallsTest");
    }

    private void read() throws IOException {
        JavaCompiler compiler = ToolProvider.getSystemJavaCompiler();
        try (StandardJavaFileManager files = compiler.getStandardFileManager(null, null, null)) {
            JavacTask task = (JavacTask) compiler.getTask(null, files, null, List.of("-proc:none"), null, files.getJavaFileObjects(SOURCE));
            CompilationUnitTree unit = task.parse().iterator().next();
            task.analyze();
            new Reader(Trees.instance(task)).scan(unit, "");
        }
    }

    /** Notes each call; the string that is handed down is the method in which it stands. */
    private final class Reader extends TreePathScanner<Void, String> {
        private final Trees trees;

        Reader(Trees trees) {
            this.trees = trees;
        }

        @Override
        public Void visitMethod(MethodTree method, String around) {
            String name = nameOfElement();
            called.computeIfAbsent(name, added -> new TreeSet<>());
            return super.visitMethod(method, name);
        }

        @Override
        public Void visitMethodInvocation(MethodInvocationTree call, String in) {
            note(in);
            return super.visitMethodInvocation(call, in);
        }

        @Override
        public Void visitNewClass(NewClassTree made, String in) {
            note(in);
            return super.visitNewClass(made, in);
        }

        /** What stands outside of the methods are fields' first values, which the constructor makes. */
        private void note(String in) {
            called.computeIfAbsent(in.isEmpty() ? "the fields' first values" : in, added -> new TreeSet<>()).add(nameOfElement());
        }

        private String nameOfElement() {
            Element element = trees.getElement(getCurrentPath());
            return element.getEnclosingElement() + "." + element;
        }
    }

    private void library() {
        T.due("methods that are read", called.size() > 100, true);
        for (Map.Entry<String, Set<String>> method : called.entrySet()) {
            for (String name : method.getValue()) {
                T.due(name + " in " + method.getKey(), called.containsKey(name) || LIBRARY.contains(name) || name.startsWith("RayLayers."), true);
            }
        }
    }

    private void depths() {
        for (String name : new ArrayList<>(called.keySet())) {
            List<String> chain = chain(name, new LinkedHashSet<>());
            T.due("at most " + MOST_DEEP + " deep: " + chain, chain.size() <= MOST_DEEP, true);
        }
    }

    /** The longest chain of own methods from this one on. */
    private List<String> chain(String name, Set<String> open) {
        if (deepest.containsKey(name)) {
            return deepest.get(name);
        }
        T.due(name + " again in " + open, open.contains(name), false);
        List<String> longest = List.of();
        if (open.add(name)) {
            for (String next : called.get(name)) {
                List<String> chain = called.containsKey(next) ? chain(next, open) : List.of();
                longest = chain.size() > longest.size() ? chain : longest;
            }
            open.remove(name);
        }
        List<String> whole = new ArrayList<>(List.of(name));
        whole.addAll(longest);
        deepest.put(name, whole);
        return whole;
    }
}
