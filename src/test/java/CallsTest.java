import com.sun.source.tree.CompilationUnitTree;
import com.sun.source.tree.ExpressionTree;
import com.sun.source.tree.MemberSelectTree;
import com.sun.source.tree.MethodInvocationTree;
import com.sun.source.tree.MethodTree;
import com.sun.source.tree.NewClassTree;
import com.sun.source.util.JavacTask;
import com.sun.source.util.TreePath;
import com.sun.source.util.TreePathScanner;
import com.sun.source.util.Trees;
import java.io.File;
import java.util.ArrayDeque;
import java.util.Deque;
import java.util.HashMap;
import java.util.HashSet;
import java.util.Map;
import java.util.Set;
import java.util.TreeSet;
import javax.lang.model.element.ExecutableElement;
import javax.lang.model.element.TypeElement;
import javax.tools.JavaCompiler;
import javax.tools.StandardJavaFileManager;
import javax.tools.ToolProvider;

/** Rules 8 and 11 of LANGUAGE.md: which methods of the class call which, how deep that goes, and what calls itself. */
public final class CallsTest {
    private static final Due due = new Due("CallsTest");
    private static final int DEEPEST = 8;
    /** Reading a text goes down by brackets and by !, eight of each at most; nothing else comes to itself again. */
    private static final Set<String> RECURSIVE = Set.of("parseOr", "parseAnd", "parseTest", "parseSum", "parseTerm",
        "parsePiece");

    private final Map<ExecutableElement, Set<ExecutableElement>> calls = new HashMap<>();
    /** Called on an object that may be of a kind under the one that is named; else the method is that one itself. */
    private final Map<ExecutableElement, Set<ExecutableElement>> callsOfSomeKind = new HashMap<>();
    private final Map<ExecutableElement, Integer> levels = new HashMap<>();

    public static void main(String[] args) throws Exception {
        new CallsTest().test();
        due.end();
    }

    private void test() throws Exception {
        JavaCompiler javac = ToolProvider.getSystemJavaCompiler();
        try (StandardJavaFileManager files = javac.getStandardFileManager(null, null, null)) {
            JavacTask task = (JavacTask) javac.getTask(null, files, null, null, null,
                files.getJavaFileObjects(new File("src/main/java/NineSail.java")));
            Iterable<? extends CompilationUnitTree> units = task.parse();
            task.analyze();
            for (CompilationUnitTree unit : units) {
                new Reader(Trees.instance(task)).scan(unit, null);
            }
            addThoseThatOverride(task);
        }
        calls.values().forEach(called -> called.retainAll(calls.keySet()));
        recursion();
        depth();
    }

    private final class Reader extends TreePathScanner<Void, Void> {
        private final Trees trees;
        private ExecutableElement method;

        Reader(Trees trees) {
            this.trees = trees;
        }

        @Override
        public Void visitMethod(MethodTree tree, Void none) {
            method = (ExecutableElement) trees.getElement(getCurrentPath());
            calls.put(method, new HashSet<>());
            callsOfSomeKind.put(method, new HashSet<>());
            super.visitMethod(tree, none);
            method = null;
            return null;
        }

        @Override
        public Void visitMethodInvocation(MethodInvocationTree tree, Void none) {
            ExpressionTree select = tree.getMethodSelect();
            boolean above = select instanceof MemberSelectTree m && m.getExpression().toString().equals("super");
            add(trees.getElement(new TreePath(getCurrentPath(), select)), !above);
            return super.visitMethodInvocation(tree, none);
        }

        @Override
        public Void visitNewClass(NewClassTree tree, Void none) {
            add(trees.getElement(getCurrentPath()), false);
            return super.visitNewClass(tree, none);
        }

        private void add(Object called, boolean ofSomeKind) {
            if (method != null && called instanceof ExecutableElement e) {
                calls.get(method).add(e);
                if (ofSomeKind) {
                    callsOfSomeKind.get(method).add(e);
                }
            }
        }
    }

    private void addThoseThatOverride(JavacTask task) {
        callsOfSomeKind.forEach((method, called) -> {
            for (ExecutableElement named : called) {
                for (ExecutableElement other : calls.keySet()) {
                    TypeElement type = (TypeElement) other.getEnclosingElement();
                    if (task.getElements().overrides(other, named, type)) {
                        calls.get(method).add(other);
                    }
                }
            }
        });
    }

    private void recursion() {
        due.promise("rule 8");
        Set<String> found = new TreeSet<>();
        for (ExecutableElement m : calls.keySet()) {
            if (reaches(m, m)) {
                found.add(m.getSimpleName().toString());
            }
        }
        due.holds("what comes to itself again is how a text is read: " + found, found.equals(RECURSIVE));
    }

    private boolean reaches(ExecutableElement from, ExecutableElement to) {
        Set<ExecutableElement> seen = new HashSet<>();
        Deque<ExecutableElement> open = new ArrayDeque<>(calls.get(from));
        while (!open.isEmpty()) {
            ExecutableElement m = open.pop();
            if (m.equals(to)) {
                return true;
            }
            if (seen.add(m)) {
                open.addAll(calls.get(m));
            }
        }
        return false;
    }

    private void depth() {
        due.promise("rule 11");
        for (ExecutableElement m : calls.keySet()) {
            String name = m.getEnclosingElement().getSimpleName() + "." + m;
            int deep = levelsOf(m);
            due.holds(name + " goes " + deep + " calls deep, and at most " + DEEPEST, deep <= DEEPEST);
            if (m.getSimpleName().contentEquals("hours")) {
                due.is("hours, letPass, passHour, pace, pullOf, gives, join: as deep as", deep, 7);
            }
        }
    }

    /** Methods that come to one another again count as one level: rule 8 bounds how deep those go. */
    private int levelsOf(ExecutableElement m) {
        if (levels.containsKey(m)) {
            return levels.get(m);
        }
        Set<ExecutableElement> together = new HashSet<>(Set.of(m));
        for (ExecutableElement other : calls.keySet()) {
            if (reaches(m, other) && reaches(other, m)) {
                together.add(other);
            }
        }
        int most = 0;
        for (ExecutableElement one : together) {
            for (ExecutableElement called : calls.get(one)) {
                most = together.contains(called) ? most : Math.max(most, levelsOf(called));
            }
        }
        levels.put(m, most + 1);
        return most + 1;
    }
}
