import com.sun.source.tree.AssertTree;
import com.sun.source.tree.BinaryTree;
import com.sun.source.tree.BlockTree;
import com.sun.source.tree.ClassTree;
import com.sun.source.tree.CompilationUnitTree;
import com.sun.source.tree.DoWhileLoopTree;
import com.sun.source.tree.ExpressionTree;
import com.sun.source.tree.ForLoopTree;
import com.sun.source.tree.IdentifierTree;
import com.sun.source.tree.InstanceOfTree;
import com.sun.source.tree.LambdaExpressionTree;
import com.sun.source.tree.LiteralTree;
import com.sun.source.tree.MemberReferenceTree;
import com.sun.source.tree.MemberSelectTree;
import com.sun.source.tree.MethodInvocationTree;
import com.sun.source.tree.MethodTree;
import com.sun.source.tree.NewArrayTree;
import com.sun.source.tree.NewClassTree;
import com.sun.source.tree.ParenthesizedTree;
import com.sun.source.tree.SynchronizedTree;
import com.sun.source.tree.ThrowTree;
import com.sun.source.tree.Tree;
import com.sun.source.tree.TryTree;
import com.sun.source.tree.TypeCastTree;
import com.sun.source.tree.VariableTree;
import com.sun.source.tree.WhileLoopTree;
import com.sun.source.util.JavacTask;
import com.sun.source.util.SourcePositions;
import com.sun.source.util.TreeScanner;
import com.sun.source.util.Trees;
import java.io.IOException;
import java.nio.file.Path;
import java.util.HashMap;
import java.util.HashSet;
import java.util.List;
import java.util.Map;
import java.util.Set;
import java.util.TreeSet;
import javax.lang.model.element.Modifier;
import javax.tools.JavaCompiler;
import javax.tools.StandardJavaFileManager;
import javax.tools.ToolProvider;

/**
 * The rules of LANGUAGE.md, as far as the source's own form shows whether they are kept. Where the
 * class needs less than a rule allows (no try, no text, no new object in a call), less is due.
 */
public final class LanguageTests extends TreeScanner<Void, Void> {
    private static final Path SOURCE = Path.of("src", "main", "java", "GridSums.java");
    private static final Set<String> TYPES =
        Set.of("void", "int", "long", "boolean", "long[]", "boolean[]", "Wide", "Fraction", "Division");
    private static final Set<String> NUMBERS = Set.of("int", "long");
    private static final Set<String> LIBRARY = Set.of("Math.min", "Math.max", "Math.floorDiv", "Math.floorMod");
    private static final Set<String> EXCEPTIONS = Set.of("IndexOutOfBoundsException", "ArithmeticException");
    private static final String CONSTRUCTOR = "<init>";
    private static final int MOST_PARAMETERS = 7;
    private static final int MOST_LINES = 60;
    private static final int MOST_DEPTH = 8;
    private static final int MOST_CLASSES = 12;
    private static final int MOST_FIELDS = 20;

    private final CompilationUnitTree unit;
    private final SourcePositions positions;
    /** A method's name, and the names of those it calls. */
    private final Map<String, Set<String>> calls = new HashMap<>();
    private int classes = 0;
    private String method = null;
    private boolean isThrowing = false;

    private LanguageTests(CompilationUnitTree unit, SourcePositions positions) {
        this.unit = unit;
        this.positions = positions;
    }

    public static void main(String[] args) throws IOException {
        JavaCompiler compiler = ToolProvider.getSystemJavaCompiler();
        try (StandardJavaFileManager files = compiler.getStandardFileManager(null, null, null)) {
            JavacTask task = (JavacTask) compiler.getTask(null, files, null, null, null,
                files.getJavaFileObjects(SOURCE));
            CompilationUnitTree unit = task.parse().iterator().next();
            LanguageTests tests = new LanguageTests(unit, Trees.instance(task).getSourcePositions());
            tests.scan(unit, null);
            tests.dueForTheWhole();
        }
        Check.end();
    }

    private void dueForTheWhole() {
        due(1, "no package line", unit.getPackageName() == null);
        due(1, "one class outside", unit.getTypeDecls().size() == 1);
        due(4, "no import", unit.getImports().isEmpty());
        due(11, "classes: " + classes, classes <= MOST_CLASSES);
        for (String name : new TreeSet<>(calls.keySet())) {
            int depth = depthOf(name, new HashSet<>());
            due(8, "calls behind " + name + " are no recursion and " + MOST_DEPTH + " deep at most: " + depth,
                depth <= MOST_DEPTH);
        }
    }

    /** A recursion counts as deeper than any depth that is allowed. */
    private int depthOf(String name, Set<String> open) {
        if (!open.add(name)) {
            return MOST_DEPTH + 1;
        }
        int deepest = 0;
        for (String called : calls.getOrDefault(name, Set.of())) {
            deepest = Math.max(deepest, depthOf(called, open));
        }
        open.remove(name);
        return 1 + deepest;
    }

    private static void due(int rule, String what, boolean holds) {
        Check.due("LANGUAGE.md, rule " + rule + ": " + what, true, holds);
    }

    private void dueNever(int rule, Tree tree) {
        due(rule, "not in the program: " + tree, false);
    }

    private long lineOf(long position) {
        return unit.getLineMap().getLineNumber(position);
    }

    @Override
    public Void visitClass(ClassTree tree, Void none) {
        classes++;
        String name = tree.getSimpleName().toString();
        Set<Modifier> modifiers = tree.getModifiers().getFlags();
        boolean isFace = name.equals("GridSums");
        due(1, name + " is the face or a static class inside", isFace
            ? modifiers.contains(Modifier.PUBLIC) && modifiers.contains(Modifier.FINAL)
            : modifiers.contains(Modifier.STATIC) && !modifiers.contains(Modifier.PUBLIC));
        int fields = 0;
        for (Tree member : tree.getMembers()) {
            due(5, name + " has no block of its own", !(member instanceof BlockTree));
            if (member instanceof VariableTree field && !isStatic(field)) {
                fields++;
            } else if (member instanceof VariableTree field) {
                dueConstant(field);
            }
        }
        due(11, name + " has " + fields + " fields", fields <= MOST_FIELDS);
        return super.visitClass(tree, none);
    }

    private static boolean isStatic(VariableTree field) {
        return field.getModifiers().getFlags().contains(Modifier.STATIC);
    }

    private void dueConstant(VariableTree field) {
        boolean isFinal = field.getModifiers().getFlags().contains(Modifier.FINAL);
        boolean isNumber = NUMBERS.contains(field.getType().toString());
        due(5, field + " is a constant", isFinal && isNumber);
    }

    @Override
    public Void visitMethod(MethodTree tree, Void none) {
        method = tree.getName().toString();
        if (!method.equals(CONSTRUCTOR)) {
            due(8, method + " is the one method of its name", calls.put(method, new TreeSet<>()) == null);
            dueType(tree.getReturnType());
        }
        int parameters = tree.getParameters().size();
        due(11, method + " takes " + parameters + " parameters", parameters <= MOST_PARAMETERS);
        long lines = 1 + lineOf(positions.getEndPosition(unit, tree)) - lineOf(positions.getStartPosition(unit, tree));
        due(11, method + " has " + lines + " lines", lines <= MOST_LINES);
        super.visitMethod(tree, none);
        method = null;
        return null;
    }

    private void dueType(Tree type) {
        due(3, "type " + type, TYPES.contains(type.toString()));
    }

    @Override
    public Void visitVariable(VariableTree tree, Void none) {
        dueType(tree.getType());
        return super.visitVariable(tree, none);
    }

    /** A call of the class's own, or one of the library's that the class needs. */
    @Override
    public Void visitMethodInvocation(MethodInvocationTree tree, Void none) {
        ExpressionTree called = tree.getMethodSelect();
        String name = called.toString();
        if (called instanceof MemberSelectTree select) {
            name = select.getIdentifier().toString();
            boolean isOfAClass = Character.isUpperCase(select.getExpression().toString().charAt(0));
            due(4, called + " may be used", !isOfAClass || LIBRARY.contains(called.toString()));
        }
        // A constructor's call of the class above it is nobody's to count.
        if (method != null && !method.equals(CONSTRUCTOR)) {
            calls.get(method).add(name);
        }
        due(12, "no call in a constructor but of the class above: " + tree,
            !CONSTRUCTOR.equals(method) || name.equals("super"));
        return super.visitMethodInvocation(tree, none);
    }

    @Override
    public Void visitThrow(ThrowTree tree, Void none) {
        due(6, "no throw in a constructor", !CONSTRUCTOR.equals(method));
        due(6, tree + " throws a new exception", tree.getExpression() instanceof NewClassTree);
        isThrowing = true;
        super.visitThrow(tree, none);
        isThrowing = false;
        return null;
    }

    @Override
    public Void visitNewClass(NewClassTree tree, Void none) {
        List<? extends ExpressionTree> arguments = tree.getArguments();
        if (isThrowing) {
            due(6, tree + " is an exception that may be thrown", EXCEPTIONS.contains(tree.getIdentifier().toString()));
            due(6, tree + " has a written text or none", arguments.isEmpty()
                || arguments.size() == 1 && arguments.get(0) instanceof LiteralTree);
        } else {
            due(12, tree + " is made for a field", method == null);
        }
        due(2, tree + " is no class without a name", tree.getClassBody() == null);
        return super.visitNewClass(tree, none);
    }

    @Override
    public Void visitNewArray(NewArrayTree tree, Void none) {
        due(12, tree + " is made for a field", method == null);
        return super.visitNewArray(tree, none);
    }

    @Override
    public Void visitForLoop(ForLoopTree tree, Void none) {
        due(9, "a counter has a bound in: " + tree, hasBound(tree.getCondition()) && !tree.getUpdate().isEmpty());
        return super.visitForLoop(tree, none);
    }

    @Override
    public Void visitWhileLoop(WhileLoopTree tree, Void none) {
        due(9, "a counter has a bound in: " + tree, hasBound(tree.getCondition()));
        return super.visitWhileLoop(tree, none);
    }

    @Override
    public Void visitDoWhileLoop(DoWhileLoopTree tree, Void none) {
        due(9, "a counter has a bound in: " + tree, hasBound(tree.getCondition()));
        return super.visitDoWhileLoop(tree, none);
    }

    /** All of what is joined by && holds in each round, so that one of it with a bound is enough. */
    private static boolean hasBound(Tree condition) {
        if (condition instanceof ParenthesizedTree inner) {
            return hasBound(inner.getExpression());
        }
        if (!(condition instanceof BinaryTree pair)) {
            return false;
        }
        if (pair.getKind() == Tree.Kind.CONDITIONAL_AND) {
            return hasBound(pair.getLeftOperand()) || hasBound(pair.getRightOperand());
        }
        boolean isOrder = pair.getKind() == Tree.Kind.LESS_THAN || pair.getKind() == Tree.Kind.GREATER_THAN_EQUAL;
        return isOrder && pair.getLeftOperand() instanceof IdentifierTree;
    }

    /** No reference is cast, so that no cast can throw. */
    @Override
    public Void visitTypeCast(TypeCastTree tree, Void none) {
        due(7, tree + " is a cast of numbers", NUMBERS.contains(tree.getType().toString()));
        return super.visitTypeCast(tree, none);
    }

    @Override
    public Void visitLambdaExpression(LambdaExpressionTree tree, Void none) {
        dueNever(2, tree);
        return null;
    }

    @Override
    public Void visitMemberReference(MemberReferenceTree tree, Void none) {
        dueNever(2, tree);
        return null;
    }

    @Override
    public Void visitTry(TryTree tree, Void none) {
        dueNever(6, tree);
        return null;
    }

    @Override
    public Void visitSynchronized(SynchronizedTree tree, Void none) {
        dueNever(6, tree);
        return null;
    }

    @Override
    public Void visitAssert(AssertTree tree, Void none) {
        dueNever(6, tree);
        return null;
    }

    @Override
    public Void visitInstanceOf(InstanceOfTree tree, Void none) {
        dueNever(6, tree);
        return null;
    }
}
