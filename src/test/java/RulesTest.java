import com.sun.source.tree.BinaryTree;
import com.sun.source.tree.BlockTree;
import com.sun.source.tree.ClassTree;
import com.sun.source.tree.CompilationUnitTree;
import com.sun.source.tree.ExpressionTree;
import com.sun.source.tree.ForLoopTree;
import com.sun.source.tree.IdentifierTree;
import com.sun.source.tree.MemberSelectTree;
import com.sun.source.tree.MethodInvocationTree;
import com.sun.source.tree.MethodTree;
import com.sun.source.tree.NewArrayTree;
import com.sun.source.tree.NewClassTree;
import com.sun.source.tree.Tree;
import com.sun.source.tree.VariableTree;
import com.sun.source.util.JavacTask;
import com.sun.source.util.SourcePositions;
import com.sun.source.util.TreeScanner;
import com.sun.source.util.Trees;
import java.io.IOException;
import java.nio.file.Path;
import java.util.ArrayList;
import java.util.List;
import java.util.Map;
import java.util.Set;
import java.util.TreeMap;
import java.util.TreeSet;
import javax.lang.model.element.Modifier;
import javax.tools.JavaCompiler;
import javax.tools.StandardJavaFileManager;
import javax.tools.ToolProvider;

/**
 * The program keeps to ../shared/LANGUAGE.md, as far as its text shows it. Where the program needs
 * less than the rules allow, less is allowed here. What a tree stands in is told by a method's name,
 * which is empty outside of methods.
 */
public final class RulesTest extends TreeScanner<Void, String> {
    private static final Path PROGRAM = Path.of("src/main/java/ScopedMemory.java");
    private static final String CONSTRUCTOR = "<init>";
    private static final Set<String> LIBRARY = Set.of("Math.max", "Math.min");
    private static final Set<Tree.Kind> RULED_OUT = Set.of(
        Tree.Kind.LAMBDA_EXPRESSION, Tree.Kind.MEMBER_REFERENCE, Tree.Kind.THROW, Tree.Kind.TRY,
        Tree.Kind.SYNCHRONIZED, Tree.Kind.ASSERT, Tree.Kind.TYPE_CAST, Tree.Kind.INSTANCE_OF, Tree.Kind.WHILE_LOOP,
        Tree.Kind.DO_WHILE_LOOP, Tree.Kind.DIVIDE, Tree.Kind.REMAINDER, Tree.Kind.DIVIDE_ASSIGNMENT,
        Tree.Kind.REMAINDER_ASSIGNMENT, Tree.Kind.STRING_LITERAL);
    private static final int MOST_PARAMETERS = 7;
    private static final int MOST_LINES = 60;
    private static final int MOST_DEPTH = 8;
    private static final int MOST_CLASSES = 12;
    private static final int MOST_FIELDS = 20;

    private final Checks checks = new Checks();
    private final SourcePositions positions;
    private final CompilationUnitTree unit;
    private final Set<String> classes = new TreeSet<>();
    private final Set<String> classesNamed = new TreeSet<>();
    private final Map<String, Set<String>> calls = new TreeMap<>();

    private RulesTest(SourcePositions positions, CompilationUnitTree unit) {
        this.positions = positions;
        this.unit = unit;
    }

    public static void main(String[] args) throws IOException {
        JavaCompiler compiler = ToolProvider.getSystemJavaCompiler();
        try (StandardJavaFileManager files = compiler.getStandardFileManager(null, null, null)) {
            JavacTask task = (JavacTask) compiler.getTask(null, files, null, null, null,
                files.getJavaFileObjects(PROGRAM));
            CompilationUnitTree unit = task.parse().iterator().next();
            new RulesTest(Trees.instance(task).getSourcePositions(), unit).run();
        }
    }

    private void run() {
        scan(unit, "");
        checks.part("the file");
        checks.holds("that there is no package line and no import",
            unit.getPackageName() == null && unit.getImports().isEmpty());
        checks.due("classes beside one another", unit.getTypeDecls().size(), 1);
        checks.holds("that there are few classes: " + classes, classes.size() <= MOST_CLASSES);
        classesNamed.removeAll(classes);
        checks.same("the library's classes", classesNamed.toString(), "[Math]");
        for (String method : calls.keySet()) {
            checks.holds("that the calls from " + method + " are known, in no ring and not deep",
                depth(method, new ArrayList<>()) <= MOST_DEPTH);
        }
        checks.end();
    }

    /** How deep the calls go from a method; too deep if that calls itself or is none of the file's own. */
    private int depth(String method, List<String> open) {
        if (LIBRARY.contains(method)) {
            return 1;
        }
        if (open.contains(method) || !calls.containsKey(method)) {
            return MOST_DEPTH + 1;
        }
        List<String> opened = new ArrayList<>(open);
        opened.add(method);
        int deepest = 0;
        for (String called : calls.get(method)) {
            deepest = Math.max(deepest, depth(called, opened));
        }
        return deepest + 1;
    }

    @Override
    public Void scan(Tree tree, String method) {
        if (tree != null) {
            holds(tree, "that " + tree.getKind() + " is not used", !RULED_OUT.contains(tree.getKind()));
        }
        return super.scan(tree, method);
    }

    @Override
    public Void visitClass(ClassTree tree, String method) {
        String name = tree.getSimpleName().toString();
        boolean outer = classes.isEmpty();
        holds(tree, "that a class has a name and stands in no method", !name.isEmpty() && method.isEmpty());
        holds(tree, "that " + name + " is seen as it is due", tree.getModifiers().getFlags().equals(outer
            ? Set.of(Modifier.PUBLIC, Modifier.FINAL)
            : Set.of(Modifier.PRIVATE, Modifier.STATIC, Modifier.FINAL)));
        classes.add(name);
        int fields = 0;
        for (Tree member : tree.getMembers()) {
            holds(member, "that no block stands beside the methods", !(member instanceof BlockTree));
            if (member instanceof VariableTree field) {
                fields += checkField(field);
            }
        }
        holds(tree, "that " + name + " has few fields", fields <= MOST_FIELDS);
        return super.visitClass(tree, method);
    }

    /** Answers 1 for a field and 0 for a constant. */
    private int checkField(VariableTree field) {
        Set<Modifier> kind = field.getModifiers().getFlags();
        if (!kind.contains(Modifier.STATIC)) {
            holds(field, "that a field is private", kind.contains(Modifier.PRIVATE));
            return 1;
        }
        holds(field, "that what is static is a constant written out", kind.contains(Modifier.FINAL)
            && field.getType().toString().equals("int") && field.getInitializer().toString().matches("-?\\d+"));
        return 0;
    }

    @Override
    public Void visitMethod(MethodTree tree, String method) {
        String name = tree.getName().toString();
        holds(tree, "that " + name + " has few parameters", tree.getParameters().size() <= MOST_PARAMETERS);
        long lines = lineOf(positions.getEndPosition(unit, tree)) - lineOf(positions.getStartPosition(unit, tree)) + 1;
        holds(tree, "that " + name + " is short", lines <= MOST_LINES);
        holds(tree, "that there is one " + name + " only", calls.put(name, new TreeSet<>()) == null);
        return super.visitMethod(tree, name);
    }

    @Override
    public Void visitMethodInvocation(MethodInvocationTree tree, String method) {
        ExpressionTree called = tree.getMethodSelect();
        boolean ofLibrary = called.toString().startsWith("Math.");
        String name = called instanceof MemberSelectTree selected && !ofLibrary
            ? selected.getIdentifier().toString()
            : called.toString();
        holds(tree, "that " + name + " is called in a method", !method.isEmpty());
        calls.computeIfAbsent(method, any -> new TreeSet<>()).add(name);
        return super.visitMethodInvocation(tree, method);
    }

    @Override
    public Void visitForLoop(ForLoopTree tree, String method) {
        String counter = tree.getInitializer().size() == 1 && tree.getInitializer().get(0) instanceof VariableTree first
            ? first.getName().toString()
            : "";
        holds(tree, "that the loop counts on", tree.getUpdate().toString().equals(counter + "++;"));
        holds(tree, "that the loop has a bound", hasBound(tree.getCondition(), counter));
        return super.visitForLoop(tree, method);
    }

    private static boolean hasBound(ExpressionTree condition, String counter) {
        if (!(condition instanceof BinaryTree both)) {
            return false;
        }
        if (both.getKind() == Tree.Kind.CONDITIONAL_AND) {
            return hasBound(both.getLeftOperand(), counter) || hasBound(both.getRightOperand(), counter);
        }
        return both.getKind() == Tree.Kind.LESS_THAN && both.getLeftOperand().toString().equals(counter)
            && both.getRightOperand().toString().matches("[A-Z_]+");
    }

    @Override
    public Void visitNewClass(NewClassTree tree, String method) {
        checkMaking(tree, method);
        return super.visitNewClass(tree, method);
    }

    @Override
    public Void visitNewArray(NewArrayTree tree, String method) {
        checkMaking(tree, method);
        return super.visitNewArray(tree, method);
    }

    private void checkMaking(Tree tree, String method) {
        holds(tree, "that " + tree + " is made with the object", method.isEmpty() || method.equals(CONSTRUCTOR));
    }

    @Override
    public Void visitIdentifier(IdentifierTree tree, String method) {
        String name = tree.getName().toString();
        if (name.matches("[A-Z].*[a-z].*")) {
            classesNamed.add(name);
        }
        return super.visitIdentifier(tree, method);
    }

    private void holds(Tree tree, String what, boolean so) {
        checks.part("line " + lineOf(positions.getStartPosition(unit, tree)));
        checks.holds(what, so);
    }

    private long lineOf(long position) {
        return position < 0 ? 0 : unit.getLineMap().getLineNumber(position);
    }
}
