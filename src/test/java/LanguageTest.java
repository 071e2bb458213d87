import com.sun.source.tree.CatchTree;
import com.sun.source.tree.ClassTree;
import com.sun.source.tree.CompilationUnitTree;
import com.sun.source.tree.ImportTree;
import com.sun.source.tree.LambdaExpressionTree;
import com.sun.source.tree.MemberReferenceTree;
import com.sun.source.tree.MethodInvocationTree;
import com.sun.source.tree.MethodTree;
import com.sun.source.tree.NewArrayTree;
import com.sun.source.tree.NewClassTree;
import com.sun.source.tree.Tree;
import com.sun.source.tree.TryTree;
import com.sun.source.tree.VariableTree;
import com.sun.source.util.JavacTask;
import com.sun.source.util.TreePath;
import com.sun.source.util.TreePathScanner;
import com.sun.source.util.Trees;
import java.nio.file.Files;
import java.nio.file.Path;
import java.util.HashMap;
import java.util.List;
import java.util.Map;
import java.util.Set;
import java.util.TreeSet;
import javax.lang.model.element.Element;
import javax.lang.model.element.Modifier;
import javax.tools.JavaCompiler;
import javax.tools.StandardJavaFileManager;
import javax.tools.ToolProvider;

/** What of LANGUAGE.md can be seen from the source alone: its limits, the library it leaves, and where objects are made. */
final class LanguageTest {
    private static final Path SOURCE = Path.of("src/main/java/ShellHeap.java");
    private static final int DEEPEST = 8;
    private static final int LONGEST = 60;
    private static final int MOST_PARAMETERS = 7;
    private static final int MOST_CLASSES = 12;
    private static final int MOST_FIELDS = 20;
    private static final Set<String> LIBRARY = Set.of("String.length", "String.charAt", "Math.min", "Math.max", "Math.abs",
            "Integer.bitCount");

    private final Checks checks = new Checks();
    private final Map<String, Set<String>> calls = new HashMap<>();
    private final Set<String> face = new TreeSet<>();
    private final Set<String> privateNames = new TreeSet<>();
    private int classes = 0;

    public static void main(String[] args) throws Exception {
        LanguageTest test = new LanguageTest();
        test.signs();
        test.read();
        test.depths();
        test.checks.end();
    }

    private void signs() throws Exception {
        byte[] bytes = Files.readAllBytes(SOURCE);
        int beyond = 0;
        for (byte b : bytes) {
            beyond += b < 0 ? 1 : 0;
        }
        checks.due("signs above 127", beyond, 0);
    }

    private void read() throws Exception {
        JavaCompiler compiler = ToolProvider.getSystemJavaCompiler();
        try (StandardJavaFileManager files = compiler.getStandardFileManager(null, null, null)) {
            JavacTask task = (JavacTask) compiler.getTask(null, files, null, List.of("-proc:none"), null,
                    files.getJavaFileObjects(SOURCE));
            Iterable<? extends CompilationUnitTree> units = task.parse();
            task.analyze();
            Trees trees = Trees.instance(task);
            for (CompilationUnitTree unit : units) {
                new Reader(trees, unit).scan(unit, null);
            }
        }
        checks.due("classes: " + classes, classes <= MOST_CLASSES, true);
        for (String name : privateNames) {
            checks.due("a private method with a name of the face: " + name, face.contains(name), false);
        }
    }

    private final class Reader extends TreePathScanner<Void, Void> {
        private final Trees trees;
        private final CompilationUnitTree unit;
        private String method = null;

        Reader(Trees trees, CompilationUnitTree unit) {
            this.trees = trees;
            this.unit = unit;
        }

        private long line(long position) {
            return unit.getLineMap().getLineNumber(position);
        }

        private String named(Element element) {
            return element.getEnclosingElement().getSimpleName() + "." + element.getSimpleName();
        }

        @Override
        public Void visitImport(ImportTree tree, Void none) {
            checks.due(tree.toString().trim(), tree.getQualifiedIdentifier().toString().equals("java.util.NoSuchElementException"), true);
            return null;
        }

        @Override
        public Void visitClass(ClassTree tree, Void none) {
            classes++;
            int fields = 0;
            for (Tree member : tree.getMembers()) {
                if (member instanceof VariableTree field) {
                    Set<Modifier> is = field.getModifiers().getFlags();
                    fields += is.contains(Modifier.STATIC) ? 0 : 1;
                    checks.due("static and not final: " + field.getName(), is.contains(Modifier.STATIC) && !is.contains(Modifier.FINAL), false);
                }
            }
            checks.due("fields of " + tree.getSimpleName() + ": " + fields, fields <= MOST_FIELDS, true);
            return super.visitClass(tree, none);
        }

        @Override
        public Void visitMethod(MethodTree tree, Void none) {
            Element element = trees.getElement(getCurrentPath());
            method = named(element);
            calls.putIfAbsent(method, new TreeSet<>());
            if (tree.getModifiers().getFlags().contains(Modifier.PUBLIC)) {
                face.add(tree.getName().toString());
            }
            if (tree.getModifiers().getFlags().contains(Modifier.PRIVATE) && tree.getReturnType() != null) {
                privateNames.add(tree.getName().toString());
            }
            long from = trees.getSourcePositions().getStartPosition(unit, tree);
            long to = trees.getSourcePositions().getEndPosition(unit, tree);
            if (to > from) {
                checks.due("lines of " + method, line(to) - line(from) < LONGEST, true);
            }
            checks.due("parameters of " + method, tree.getParameters().size() <= MOST_PARAMETERS, true);
            super.visitMethod(tree, none);
            method = null;
            return null;
        }

        @Override
        public Void visitMethodInvocation(MethodInvocationTree tree, Void none) {
            Element element = trees.getElement(new TreePath(getCurrentPath(), tree.getMethodSelect()));
            String called = named(element);
            boolean own = element.toString().indexOf('(') > 0 && trees.getTree(element) != null;
            if (own) {
                calls.computeIfAbsent(method, key -> new TreeSet<>()).add(called);
            } else if (!element.getSimpleName().contentEquals("<init>")) {
                checks.due("of the library: " + called, LIBRARY.contains(called), true);
            }
            return super.visitMethodInvocation(tree, none);
        }

        private void onlyInConstructors(String what) {
            boolean good = method == null || method.endsWith(".<init>");
            checks.due(what + " made by " + method, good, true);
        }

        @Override
        public Void visitNewArray(NewArrayTree tree, Void none) {
            onlyInConstructors("an array");
            return super.visitNewArray(tree, none);
        }

        @Override
        public Void visitNewClass(NewClassTree tree, Void none) {
            if (!tree.getIdentifier().toString().endsWith("Exception")) {
                onlyInConstructors("an object");
            } else {
                checks.due("thrown by " + method, method.equals("ShellHeap.count"), true);
            }
            return super.visitNewClass(tree, none);
        }

        @Override
        public Void visitTry(TryTree tree, Void none) {
            checks.due("try in " + method, 1, 0);
            return super.visitTry(tree, none);
        }

        @Override
        public Void visitCatch(CatchTree tree, Void none) {
            checks.due("catch in " + method, 1, 0);
            return super.visitCatch(tree, none);
        }

        @Override
        public Void visitLambdaExpression(LambdaExpressionTree tree, Void none) {
            checks.due("a lambda in " + method, 1, 0);
            return super.visitLambdaExpression(tree, none);
        }

        @Override
        public Void visitMemberReference(MemberReferenceTree tree, Void none) {
            checks.due("a method reference in " + method, 1, 0);
            return super.visitMemberReference(tree, none);
        }
    }

    private void depths() {
        checks.due("the deepest row of calls is seen", depth("ShellHeap.cause", 1) > 4, true);
        for (String start : calls.keySet()) {
            int depth = depth(start, 1);
            checks.due("calls open at once from " + start + ": " + depth, depth <= DEEPEST, true);
        }
    }

    /** There is no recursion: a row of calls that goes round is far deeper than allowed, and ends there. */
    private int depth(String method, int open) {
        int deepest = open;
        if (open <= 2 * DEEPEST) {
            for (String called : calls.getOrDefault(method, Set.of())) {
                deepest = Math.max(deepest, depth(called, open + 1));
            }
        }
        return deepest;
    }
}
