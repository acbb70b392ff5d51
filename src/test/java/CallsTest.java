import com.sun.source.tree.BlockTree;
import com.sun.source.tree.ClassTree;
import com.sun.source.tree.CompilationUnitTree;
import com.sun.source.tree.MethodInvocationTree;
import com.sun.source.tree.MethodTree;
import com.sun.source.tree.NewArrayTree;
import com.sun.source.tree.NewClassTree;
import com.sun.source.util.JavacTask;
import com.sun.source.util.TreePathScanner;
import com.sun.source.util.Trees;
import java.io.File;
import java.util.ArrayDeque;
import java.util.Deque;
import java.util.LinkedHashMap;
import java.util.LinkedHashSet;
import java.util.List;
import java.util.Map;
import java.util.Set;
import java.util.TreeSet;
import javax.lang.model.element.Element;
import javax.tools.JavaCompiler;
import javax.tools.StandardJavaFileManager;
import javax.tools.ToolProvider;

/** Rules 8, 11 and 12 of ../shared/LANGUAGE.md, by who calls whom and who makes what, as javac reads the source. */
public final class CallsTest {
    private static final int MOST_DEEP = 8;
    // these alone may come to themselves again; each carries its depth as an argument
    private static final Set<String> RECURSIONS = Set.of("Law.readChain", "Law.readOperand", "Orders.tryFrom", "Acts.own",
        "Acts.actFrom", "Acts.actOfBeep", "Acts.actOverAbove");

    private static final Map<String, Set<String>> calls = new LinkedHashMap<>();

    public static void main(String[] args) throws Exception {
        read(args.length > 0 ? args[0] : "src/main/java/OneEarOfTwo.java");
        int deepest = 0;
        Set<String> again = new TreeSet<>();
        for (String method : calls.keySet()) {
            deepest = Math.max(deepest, deepFrom(method, new ArrayDeque<>()));
            if (reach(method).contains(method)) again.add(method);
        }
        Checks.due("the source was read", calls.size() > 100 ? 1 : 0, 1);
        Checks.due("11: calls go " + deepest + " deep", deepest <= MOST_DEEP ? 1 : 0, 1);
        Checks.due("8: recursions " + again, again.equals(RECURSIONS) ? 1 : 0, 1);
        Checks.end("CallsTest");
    }

    /** The longest way down on which no method comes twice. */
    private static int deepFrom(String method, Deque<String> above) {
        above.push(method);
        int most = 0;
        for (String called : calls.getOrDefault(method, Set.of())) {
            if (above.contains(called)) continue;
            int deep = deepFrom(called, above);
            if (deep >= MOST_DEEP && above.size() == 1) System.out.println("9 or more deep: " + method + " .. " + called);
            most = Math.max(most, deep);
        }
        above.pop();
        return most + 1;
    }

    private static Set<String> reach(String method) {
        Set<String> reached = new LinkedHashSet<>();
        Deque<String> next = new ArrayDeque<>(calls.get(method));
        while (!next.isEmpty()) {
            String one = next.pop();
            if (reached.add(one)) next.addAll(calls.getOrDefault(one, Set.of()));
        }
        return reached;
    }

    private static void read(String path) throws Exception {
        JavaCompiler compiler = ToolProvider.getSystemJavaCompiler();
        try (StandardJavaFileManager files = compiler.getStandardFileManager(null, null, null)) {
            JavacTask task = (JavacTask) compiler.getTask(null, files, null, List.of("-proc:none"), null,
                files.getJavaFileObjects(new File(path)));
            Iterable<? extends CompilationUnitTree> units = task.parse();
            task.analyze();
            for (CompilationUnitTree unit : units) new Reader(Trees.instance(task)).scan(unit, null);
        }
    }

    private static final class Reader extends TreePathScanner<Void, Void> {
        private final Trees trees;
        private final Deque<String> classes = new ArrayDeque<>();
        private String method = "";
        private boolean mayMake = true;

        Reader(Trees trees) {
            this.trees = trees;
        }

        private static String named(Element method) {
            return method.getEnclosingElement().getSimpleName() + "." + method.getSimpleName();
        }

        @Override
        public Void visitClass(ClassTree tree, Void none) {
            classes.push(tree.getSimpleName().toString());
            super.visitClass(tree, none);
            classes.pop();
            return null;
        }

        @Override
        public Void visitBlock(BlockTree tree, Void none) {
            if (tree.isStatic()) Checks.fault("5: a static initialiser in " + classes.peek());
            return super.visitBlock(tree, none);
        }

        @Override
        public Void visitMethod(MethodTree tree, Void none) {
            method = classes.peek() + "." + tree.getName();
            if (calls.put(method, new LinkedHashSet<>()) != null) Checks.fault("two methods are named " + method);
            mayMake = tree.getName().contentEquals("<init>");
            super.visitMethod(tree, none);
            method = "";
            mayMake = true;
            return null;
        }

        @Override
        public Void visitMethodInvocation(MethodInvocationTree tree, Void none) {
            Element called = trees.getElement(getCurrentPath());
            if (!method.isEmpty() && called != null && !called.getSimpleName().contentEquals("<init>")) {
                calls.get(method).add(named(called));
            }
            return super.visitMethodInvocation(tree, none);
        }

        @Override
        public Void visitNewClass(NewClassTree tree, Void none) {
            if (!mayMake) Checks.fault("12: " + method + " makes an object");
            return super.visitNewClass(tree, none);
        }

        @Override
        public Void visitNewArray(NewArrayTree tree, Void none) {
            if (!mayMake) Checks.fault("12: " + method + " makes an array");
            return super.visitNewArray(tree, none);
        }
    }
}
