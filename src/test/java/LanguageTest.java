import com.sun.source.tree.AssertTree;
import com.sun.source.tree.BlockTree;
import com.sun.source.tree.ClassTree;
import com.sun.source.tree.CompilationUnitTree;
import com.sun.source.tree.IdentifierTree;
import com.sun.source.tree.ImportTree;
import com.sun.source.tree.LambdaExpressionTree;
import com.sun.source.tree.LineMap;
import com.sun.source.tree.MemberReferenceTree;
import com.sun.source.tree.MemberSelectTree;
import com.sun.source.tree.MethodInvocationTree;
import com.sun.source.tree.MethodTree;
import com.sun.source.tree.NewClassTree;
import com.sun.source.tree.SynchronizedTree;
import com.sun.source.tree.ThrowTree;
import com.sun.source.tree.Tree;
import com.sun.source.tree.TryTree;
import com.sun.source.tree.VariableTree;
import com.sun.source.util.JavacTask;
import com.sun.source.util.SourcePositions;
import com.sun.source.util.TreeScanner;
import com.sun.source.util.Trees;
import java.io.IOException;
import java.nio.file.Path;
import java.util.List;
import java.util.Map;
import java.util.Set;
import java.util.TreeMap;
import java.util.TreeSet;
import javax.lang.model.element.Modifier;
import javax.tools.JavaCompiler;
import javax.tools.StandardJavaFileManager;
import javax.tools.ToolProvider;

/** What can be seen in the source of the rules of LANGUAGE.md; each complaint begins with the rule's number. */
public final class LanguageTest extends TreeScanner<Void, Void> {
    private static final Path SOURCE = Path.of("src/main/java/StockDesk.java");
    private static final Set<String> EXCEPTIONS = Set.of(
        "IllegalStateException", "IllegalArgumentException", "IndexOutOfBoundsException", "ArithmeticException",
        "UnsupportedOperationException", "NoSuchElementException", "RuntimeException");
    private static final Set<String> LIBRARY = Set.of(
        "String", "StringBuilder", "Integer", "Long", "Math", "System", "Override", "Comparable", "Iterable",
        "ArrayList", "List", "Iterator", "Arrays");
    private static final Set<String> IMPORTED = Set.of(
        "java.util.ArrayList", "java.util.List", "java.util.Iterator", "java.util.Arrays",
        "java.util.NoSuchElementException");
    private static final int MOST_CLASSES = 12;
    private static final int MOST_FIELDS = 20;
    private static final int MOST_PARAMETERS = 7;
    private static final int MOST_LINES = 60;
    private static final int MOST_DEPTH = 8;

    private final Due due;
    private final CompilationUnitTree unit;
    private final SourcePositions positions;
    private final Set<String> classes = new TreeSet<>();
    private final Set<String> typesNamed = new TreeSet<>();
    private final Map<String, Set<String>> callsOf = new TreeMap<>();
    private String method = "";

    private LanguageTest(Due due, CompilationUnitTree unit, SourcePositions positions) {
        this.due = due;
        this.unit = unit;
        this.positions = positions;
    }

    public static void main(String[] args) throws IOException {
        Due due = new Due("The language");
        JavaCompiler compiler = ToolProvider.getSystemJavaCompiler();
        try (StandardJavaFileManager files = compiler.getStandardFileManager(null, null, null)) {
            JavacTask task = (JavacTask) compiler.getTask(null, files, null, null, null, files.getJavaFileObjects(SOURCE));
            for (CompilationUnitTree unit : task.parse()) {
                new LanguageTest(due, unit, Trees.instance(task).getSourcePositions()).lookAtAll();
            }
        }
        due.end();
    }

    private void lookAtAll() {
        holds("1: no package line", unit.getPackageName() == null);
        holds("1: one class stands outermost", unit.getTypeDecls().size() == 1);
        scan(unit, null);
        holds("11: at most " + MOST_CLASSES + " classes", classes.size() <= MOST_CLASSES);
        typesNamed.removeAll(classes);
        for (String type : typesNamed) {
            holds("4: " + type + " may be used", EXCEPTIONS.contains(type) || LIBRARY.contains(type));
        }
        for (String name : callsOf.keySet()) {
            holds("11: calls from " + name + " go at most " + MOST_DEPTH + " deep", depthFrom(name, 1) <= MOST_DEPTH);
        }
    }

    private void holds(String rule, boolean so) {
        due.same("rule " + rule, so ? 1 : 0, 1);
    }

    /** Stops one below the bound, so that a recursion ends too: it counts as too deep. */
    private int depthFrom(String name, int depth) {
        int deepest = depth;
        if (depth <= MOST_DEPTH) {
            for (String called : callsOf.getOrDefault(name, Set.of())) {
                deepest = Math.max(deepest, callsOf.containsKey(called) ? depthFrom(called, depth + 1) : depth);
            }
        }
        return deepest;
    }

    @Override
    public Void visitImport(ImportTree tree, Void nothing) {
        String name = tree.getQualifiedIdentifier().toString();
        holds("4: " + name + " may be imported", !tree.isStatic() && IMPORTED.contains(name));
        return null;
    }

    @Override
    public Void visitClass(ClassTree tree, Void nothing) {
        classes.add(tree.getSimpleName().toString());
        int fields = 0;
        for (Tree member : tree.getMembers()) {
            if (member instanceof VariableTree field) {
                Set<Modifier> modifiers = field.getModifiers().getFlags();
                boolean isStatic = modifiers.contains(Modifier.STATIC);
                fields += isStatic ? 0 : 1;
                holds("5: " + field.getName() + " is final if static", !isStatic || modifiers.contains(Modifier.FINAL));
            }
            holds("5: no initialiser block", !(member instanceof BlockTree));
        }
        holds("11: fields of " + tree.getSimpleName(), fields <= MOST_FIELDS);
        return super.visitClass(tree, nothing);
    }

    @Override
    public Void visitMethod(MethodTree tree, Void nothing) {
        method = tree.getName().toString();
        callsOf.computeIfAbsent(method, name -> new TreeSet<>());
        LineMap lines = unit.getLineMap();
        long length = lines.getLineNumber(positions.getEndPosition(unit, tree))
            - lines.getLineNumber(positions.getStartPosition(unit, tree)) + 1;
        holds("11: lines of " + method, length <= MOST_LINES);
        holds("11: parameters of " + method, tree.getParameters().size() <= MOST_PARAMETERS);
        return super.visitMethod(tree, nothing);
    }

    @Override
    public Void visitMethodInvocation(MethodInvocationTree tree, Void nothing) {
        Tree called = tree.getMethodSelect();
        String name = called instanceof MemberSelectTree select ? select.getIdentifier().toString() : called.toString();
        callsOf.computeIfAbsent(method, caller -> new TreeSet<>()).add(name);
        return super.visitMethodInvocation(tree, nothing);
    }

    @Override
    public Void visitIdentifier(IdentifierTree tree, Void nothing) {
        String name = tree.getName().toString();
        holds("4: no package named in the code", !name.equals("java") && !name.equals("javax"));
        boolean looksLikeAType = name.matches("[A-Z]\\w*[a-z]\\w*");
        if (looksLikeAType) {
            typesNamed.add(name);
        }
        return null;
    }

    @Override
    public Void visitThrow(ThrowTree tree, Void nothing) {
        holds("6: no throw in a constructor", !method.equals("<init>"));
        holds("6: " + tree, tree.getExpression() instanceof NewClassTree made && isPlainException(made));
        return super.visitThrow(tree, nothing);
    }

    private static boolean isPlainException(NewClassTree made) {
        List<? extends Tree> arguments = made.getArguments();
        boolean written = arguments.isEmpty()
            || arguments.size() == 1 && arguments.get(0).getKind() == Tree.Kind.STRING_LITERAL;
        return written && EXCEPTIONS.contains(made.getIdentifier().toString());
    }

    @Override
    public Void visitTry(TryTree tree, Void nothing) {
        holds("6: no finally and no resources", tree.getFinallyBlock() == null && tree.getResources().isEmpty());
        return super.visitTry(tree, nothing);
    }

    @Override
    public Void visitLambdaExpression(LambdaExpressionTree tree, Void nothing) {
        holds("2: no lambda: " + tree, false);
        return null;
    }

    @Override
    public Void visitMemberReference(MemberReferenceTree tree, Void nothing) {
        holds("2: no method reference: " + tree, false);
        return null;
    }

    @Override
    public Void visitSynchronized(SynchronizedTree tree, Void nothing) {
        holds("6: no synchronized", false);
        return null;
    }

    @Override
    public Void visitAssert(AssertTree tree, Void nothing) {
        holds("6: no assert", false);
        return null;
    }
}
