import com.sun.source.tree.AssignmentTree;
import com.sun.source.tree.ClassTree;
import com.sun.source.tree.CompilationUnitTree;
import com.sun.source.tree.MethodInvocationTree;
import com.sun.source.tree.MethodTree;
import com.sun.source.tree.NewArrayTree;
import com.sun.source.tree.NewClassTree;
import com.sun.source.tree.ThrowTree;
import com.sun.source.tree.Tree;
import com.sun.source.tree.VariableTree;
import com.sun.source.util.JavacTask;
import com.sun.source.util.TreePath;
import com.sun.source.util.TreePathScanner;
import com.sun.source.util.Trees;
import java.io.IOException;
import java.nio.file.Path;
import java.util.ArrayList;
import java.util.List;
import java.util.Map;
import java.util.Set;
import java.util.TreeMap;
import java.util.TreeSet;
import javax.lang.model.element.Element;
import javax.lang.model.element.ElementKind;
import javax.lang.model.element.Modifier;
import javax.tools.JavaCompiler;
import javax.tools.StandardJavaFileManager;
import javax.tools.ToolProvider;

/** Rules of LANGUAGE.md on calls, on what is made and on what is thrown, of the program as javac understands it. */
public final class CallsTest {
    private static final int DEEPEST = 8;
    private static final int MOST_FIELDS = 20;
    private static final Set<String> LIBRARY = Set.of(
            "java.lang.String.length", "java.lang.String.charAt", "java.lang.Integer.bitCount",
            "java.lang.Math.min", "java.lang.Math.max", "java.lang.System.arraycopy", "java.util.Arrays.fill",
            // What javac puts at the head of a constructor.
            "java.lang.Object.<init>");
    private static final Set<String> THROWN = Set.of("java.lang.IllegalStateException", "java.lang.IllegalArgumentException",
            "java.lang.IndexOutOfBoundsException", "java.lang.UnsupportedOperationException", "java.util.NoSuchElementException");
    /** A method counts once, however often it stands open in a recursion. */
    private static final String ROUNDS = "[[Law.readAny, Law.readAtom, Law.readEach], [Scales.find]]";

    private final Map<String, Set<String>> calls = new TreeMap<>();
    private final Set<String> library = new TreeSet<>();
    private final Set<String> thrown = new TreeSet<>();
    private final Set<String> faults = new TreeSet<>();
    private int made;

    public static void main(String[] args) throws IOException {
        CallsTest test = new CallsTest();
        test.read();
        Kit.due("methods found", true, () -> test.calls.size() > 150);
        Kit.due("things made are found", true, () -> test.made > 50);
        Kit.due("against the rules", "[]", () -> test.faults);
        Kit.due("of the library", "[]", () -> without(test.library, LIBRARY));
        Kit.due("thrown", new TreeSet<>(THROWN), () -> test.thrown);
        Kit.due("recursion", ROUNDS, () -> test.rounds());
        for (String name : test.calls.keySet()) {
            Kit.due("calls deep from " + name, true, () -> test.deep(name, new ArrayList<>()) <= DEEPEST);
        }
        Kit.finish("CallsTest");
    }

    private static Set<String> without(Set<String> all, Set<String> some) {
        Set<String> rest = new TreeSet<>(all);
        rest.removeAll(some);
        return rest;
    }

    private void read() throws IOException {
        JavaCompiler compiler = ToolProvider.getSystemJavaCompiler();
        try (StandardJavaFileManager files = compiler.getStandardFileManager(null, null, null)) {
            JavacTask task = (JavacTask) compiler.getTask(null, files, null, List.of("-proc:none"), null,
                    files.getJavaFileObjects(Path.of("src/main/java/BeastRules.java")));
            Iterable<? extends CompilationUnitTree> units = task.parse();
            task.analyze();
            Reader reader = new Reader(Trees.instance(task));
            for (CompilationUnitTree unit : units) {
                reader.scan(unit, null);
            }
        }
    }

    /** Goes through the program; beside the calls it notes what the rules do not let stand where it does. */
    private final class Reader extends TreePathScanner<Void, Void> {
        private final Trees trees;
        private String here = "";
        private boolean isAhead = true;
        private boolean isThrown;

        Reader(Trees trees) {
            this.trees = trees;
        }

        private Element element() {
            return trees.getElement(getCurrentPath());
        }

        @Override
        public Void visitMethod(MethodTree tree, Void none) {
            here = name(element());
            isAhead = element().getKind() == ElementKind.CONSTRUCTOR;
            calls.putIfAbsent(here, new TreeSet<>());
            super.visitMethod(tree, none);
            isAhead = true;
            return null;
        }

        @Override
        public Void visitMethodInvocation(MethodInvocationTree tree, Void none) {
            Element called = element();
            if (isOwn(called)) {
                calls.get(here).add(name(called));
            } else {
                library.add(called.getEnclosingElement() + "." + called.getSimpleName());
            }
            return super.visitMethodInvocation(tree, none);
        }

        @Override
        public Void visitNewClass(NewClassTree tree, Void none) {
            Element of = element();
            boolean own = isOwn(of);
            made++;
            if (isThrown == own || own && !isAhead) {
                faults.add("made in " + here + ": " + of.getEnclosingElement());
            }
            return super.visitNewClass(tree, none);
        }

        @Override
        public Void visitNewArray(NewArrayTree tree, Void none) {
            made++;
            if (!isAhead) {
                faults.add("an array made in " + here);
            }
            return super.visitNewArray(tree, none);
        }

        @Override
        public Void visitThrow(ThrowTree tree, Void none) {
            if (isAhead) {
                faults.add("a throw in " + here);
            }
            if (tree.getExpression() instanceof NewClassTree) {
                thrown.add(String.valueOf(trees.getTypeMirror(new TreePath(getCurrentPath(), tree.getExpression()))));
            } else {
                faults.add("throws what is not new in " + here);
            }
            isThrown = true;
            super.visitThrow(tree, none);
            isThrown = false;
            return null;
        }

        @Override
        public Void visitVariable(VariableTree tree, Void none) {
            Element of = element();
            boolean isStatic = of.getKind() == ElementKind.FIELD && of.getModifiers().contains(Modifier.STATIC);
            if (isStatic && !of.getModifiers().contains(Modifier.FINAL)) {
                faults.add("a static field that is not final: " + name(of));
            }
            if (isStatic && !of.asType().getKind().isPrimitive()) {
                faults.add("a static field that is no number: " + name(of));
            }
            return super.visitVariable(tree, none);
        }

        @Override
        public Void visitAssignment(AssignmentTree tree, Void none) {
            if (tree.getExpression().getKind() == Tree.Kind.NULL_LITERAL) {
                faults.add("a reference becomes null in " + here);
            }
            return super.visitAssignment(tree, none);
        }

        @Override
        public Void visitClass(ClassTree tree, Void none) {
            long fields = tree.getMembers().stream().filter(part -> part instanceof VariableTree
                    && !((VariableTree) part).getModifiers().getFlags().contains(Modifier.STATIC)).count();
            if (fields > MOST_FIELDS) {
                faults.add(fields + " fields in " + tree.getSimpleName());
            }
            return super.visitClass(tree, none);
        }
    }

    private static boolean isOwn(Element of) {
        return of.getEnclosingElement().toString().startsWith("BeastRules");
    }

    private static String name(Element of) {
        return of.getEnclosingElement().getSimpleName() + "." + of.getSimpleName();
    }

    // ---- the calls, as a graph

    /** Sets of methods that call one another; a method alone only if it calls itself. */
    private List<Set<String>> rounds() {
        List<Set<String>> rounds = new ArrayList<>();
        for (String name : calls.keySet()) {
            Set<String> round = roundOf(name);
            if (!round.isEmpty() && !rounds.contains(round)) {
                rounds.add(round);
            }
        }
        return rounds;
    }

    private Set<String> roundOf(String name) {
        Set<String> round = new TreeSet<>();
        for (String other : reached(name)) {
            if (reached(other).contains(name)) {
                round.add(other);
            }
        }
        return round;
    }

    private Set<String> reached(String name) {
        Set<String> reached = new TreeSet<>();
        List<String> next = new ArrayList<>(List.of(name));
        while (!next.isEmpty()) {
            for (String called : calls.getOrDefault(next.remove(next.size() - 1), Set.of())) {
                if (reached.add(called)) {
                    next.add(called);
                }
            }
        }
        return reached;
    }

    /** How many calls stand open at once at most. */
    private int deep(String name, List<String> open) {
        if (open.contains(name)) {
            return 0;
        }
        open.add(name);
        int deepest = 0;
        for (String called : calls.getOrDefault(name, Set.of())) {
            deepest = Math.max(deepest, deep(called, open));
        }
        open.remove(name);
        return deepest + 1;
    }
}
