import com.sun.source.tree.ClassTree;
import com.sun.source.tree.CompilationUnitTree;
import com.sun.source.tree.LineMap;
import com.sun.source.tree.MethodInvocationTree;
import com.sun.source.tree.MethodTree;
import com.sun.source.tree.NewArrayTree;
import com.sun.source.tree.NewClassTree;
import com.sun.source.tree.Tree;
import com.sun.source.util.JavacTask;
import com.sun.source.util.TreePath;
import com.sun.source.util.TreePathScanner;
import com.sun.source.util.Trees;
import java.io.IOException;
import java.nio.file.Path;
import java.util.ArrayDeque;
import java.util.Deque;
import java.util.EnumSet;
import java.util.List;
import java.util.Map;
import java.util.Set;
import java.util.TreeMap;
import java.util.TreeSet;
import java.util.stream.Collectors;
import javax.lang.model.element.Element;
import javax.lang.model.element.Modifier;
import javax.tools.JavaCompiler;
import javax.tools.StandardJavaFileManager;
import javax.tools.ToolProvider;

/** The rules of LANGUAGE.md that are about what calls what, how long, how deep, and what is made where. */
public final class LanguageTests {
    private static final int MOST_DEEP = 8, MOST_LINES = 60, MOST_PARAMETERS = 7;
    private static final String OWN = "OneHinge";

    /** What the class uses of the library that rule 4 lists; another part of that list may be added here. */
    private static final Set<String> LIBRARY = Set.of("java.lang.String.length", "java.lang.String.charAt",
            "java.lang.Integer.bitCount", "java.lang.Math.min", "java.lang.System.arraycopy");
    private static final Set<Tree.Kind> FORBIDDEN = EnumSet.of(Tree.Kind.TRY, Tree.Kind.THROW, Tree.Kind.SYNCHRONIZED,
            Tree.Kind.ASSERT, Tree.Kind.LAMBDA_EXPRESSION, Tree.Kind.MEMBER_REFERENCE, Tree.Kind.IMPORT,
            Tree.Kind.SWITCH_EXPRESSION, Tree.Kind.YIELD, Tree.Kind.ANNOTATION);

    private final Check check = new Check();
    private final Map<String, Set<String>> callees = new TreeMap<>();
    private final Set<String> face = new TreeSet<>();
    private final Set<String> ownMethods = new TreeSet<>();

    public static void main(String[] args) throws IOException {
        if (args.length == 0) {
            System.out.println("the path of OneHinge.java is due");
            System.exit(1);
        }
        LanguageTests tests = new LanguageTests();
        tests.read(Path.of(args[0]));
        tests.callsAreNotTooDeep();
        tests.onlyVisitCallsItself();
        tests.noMethodOfItsOwnBearsANameOfTheFace();
        tests.check.end();
    }

    private void read(Path source) throws IOException {
        JavaCompiler compiler = ToolProvider.getSystemJavaCompiler();
        try (StandardJavaFileManager files = compiler.getStandardFileManager(null, null, null)) {
            JavacTask task = (JavacTask) compiler.getTask(null, files, null, List.of("-proc:none", "--release", "17"),
                    null, files.getJavaFileObjects(source));
            Iterable<? extends CompilationUnitTree> units = task.parse();
            task.analyze();
            for (CompilationUnitTree unit : units) {
                new Scanner(Trees.instance(task), unit).scan(unit, null);
            }
        }
    }

    /** One walk over the source: rules that are about one place are held there, calls are gathered. */
    private final class Scanner extends TreePathScanner<Void, Void> {
        private final Trees trees;
        private final CompilationUnitTree unit;
        private final LineMap lines;
        private String method = "";
        private boolean isCall = false;

        Scanner(Trees trees, CompilationUnitTree unit) {
            this.trees = trees;
            this.unit = unit;
            lines = unit.getLineMap();
        }

        @Override
        public Void scan(Tree tree, Void none) {
            if (tree != null) {
                check.holds("no " + tree.getKind() + where(tree), !FORBIDDEN.contains(tree.getKind()));
            }
            return super.scan(tree, none);
        }

        private String where(Tree tree) {
            return " at line " + line(trees.getSourcePositions().getStartPosition(unit, tree));
        }

        private long line(long position) {
            return position < 0 ? 0 : lines.getLineNumber(position);
        }

        @Override
        public Void visitClass(ClassTree tree, Void none) {
            boolean isOuter = tree.getSimpleName().contentEquals(OWN);
            check.holds("a class inside is static" + where(tree),
                    isOuter || tree.getModifiers().getFlags().contains(Modifier.STATIC));
            // What field initialisers make is made by the constructor.
            String around = method;
            method = tree.getSimpleName() + ".<init>";
            callees.computeIfAbsent(method, name -> new TreeSet<>());
            super.visitClass(tree, none);
            method = around;
            return null;
        }

        @Override
        public Void visitMethod(MethodTree tree, Void none) {
            long first = line(trees.getSourcePositions().getStartPosition(unit, tree));
            long last = line(trees.getSourcePositions().getEndPosition(unit, tree));
            String around = method;
            boolean wasCall = isCall;
            method = name(trees.getElement(getCurrentPath()));
            isCall = !method.endsWith(".<init>");
            callees.computeIfAbsent(method, name -> new TreeSet<>());
            check.holds(method + " has at most " + MOST_LINES + " lines", last - first < MOST_LINES);
            check.holds(method + " takes at most " + MOST_PARAMETERS, tree.getParameters().size() <= MOST_PARAMETERS);
            if (isCall) {
                boolean isPublic = tree.getModifiers().getFlags().contains(Modifier.PUBLIC);
                (isPublic ? face : ownMethods).add(tree.getName().toString());
            }
            super.visitMethod(tree, none);
            method = around;
            isCall = wasCall;
            return null;
        }

        @Override
        public Void visitMethodInvocation(MethodInvocationTree tree, Void none) {
            called(trees.getElement(new TreePath(getCurrentPath(), tree.getMethodSelect())), tree);
            return super.visitMethodInvocation(tree, none);
        }

        @Override
        public Void visitNewClass(NewClassTree tree, Void none) {
            check.holds("no call makes an object" + where(tree), !isCall);
            called(trees.getElement(getCurrentPath()), tree);
            return super.visitNewClass(tree, none);
        }

        @Override
        public Void visitNewArray(NewArrayTree tree, Void none) {
            check.holds("no call makes an array" + where(tree), !isCall);
            return super.visitNewArray(tree, none);
        }

        private void called(Element element, Tree tree) {
            String name = name(element);
            if (element.getEnclosingElement().toString().startsWith(OWN)) {
                callees.get(method).add(name);
            } else if (!name.equals("Object.<init>")) {
                String full = element.getEnclosingElement() + "." + element.getSimpleName();
                check.holds(full + " stands in rule 4" + where(tree), LIBRARY.contains(full));
            }
        }

        private String name(Element element) {
            return element.getEnclosingElement().getSimpleName() + "." + element.getSimpleName();
        }
    }

    private void callsAreNotTooDeep() {
        for (String method : callees.keySet()) {
            Deque<String> open = new ArrayDeque<>();
            int deep = depth(method, open);
            check.holds(method + " goes " + deep + " deep", deep <= MOST_DEEP);
        }
        check.holds("errands was read", depth("OneHinge.errands", new ArrayDeque<>()) > 1);
    }

    /** Calls that stand open at once, those that are a recursion aside. */
    private int depth(String method, Deque<String> open) {
        if (open.contains(method)) {
            return 0;
        }
        open.push(method);
        int deepest = 0;
        for (String callee : callees.getOrDefault(method, Set.of())) {
            deepest = Math.max(deepest, depth(callee, open));
        }
        open.pop();
        return deepest + 1;
    }

    private void onlyVisitCallsItself() {
        Set<String> recursive = callees.keySet().stream().filter(this::comesBack).collect(Collectors.toSet());
        check.holds("only visit, which has a guard, calls itself: " + recursive, recursive.equals(Set.of("Round.visit")));
    }

    private boolean comesBack(String method) {
        Set<String> reached = new TreeSet<>();
        Deque<String> left = new ArrayDeque<>(callees.get(method));
        while (!left.isEmpty()) {
            String next = left.pop();
            if (reached.add(next)) {
                left.addAll(callees.getOrDefault(next, Set.of()));
            }
        }
        return reached.contains(method);
    }

    private void noMethodOfItsOwnBearsANameOfTheFace() {
        for (String name : ownMethods) {
            check.holds(name + " is no name of the face", !face.contains(name));
        }
    }
}
