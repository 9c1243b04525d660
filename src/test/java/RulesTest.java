import com.sun.source.tree.AssertTree;
import com.sun.source.tree.BinaryTree;
import com.sun.source.tree.CompilationUnitTree;
import com.sun.source.tree.ExpressionTree;
import com.sun.source.tree.IdentifierTree;
import com.sun.source.tree.InstanceOfTree;
import com.sun.source.tree.LambdaExpressionTree;
import com.sun.source.tree.LiteralTree;
import com.sun.source.tree.MemberReferenceTree;
import com.sun.source.tree.MethodInvocationTree;
import com.sun.source.tree.MethodTree;
import com.sun.source.tree.NewClassTree;
import com.sun.source.tree.SynchronizedTree;
import com.sun.source.tree.ThrowTree;
import com.sun.source.tree.Tree;
import com.sun.source.tree.TryTree;
import com.sun.source.tree.TypeCastTree;
import com.sun.source.tree.VariableTree;
import com.sun.source.util.JavacTask;
import com.sun.source.util.TreePath;
import com.sun.source.util.TreePathScanner;
import com.sun.source.util.TreeScanner;
import com.sun.source.util.Trees;
import java.io.File;
import java.io.IOException;
import java.util.HashSet;
import java.util.List;
import java.util.Map;
import java.util.Set;
import java.util.TreeMap;
import java.util.TreeSet;
import javax.lang.model.element.Element;
import javax.lang.model.element.ElementKind;
import javax.lang.model.element.Modifier;
import javax.lang.model.element.TypeElement;
import javax.lang.model.element.VariableElement;
import javax.lang.model.type.ArrayType;
import javax.lang.model.type.DeclaredType;
import javax.lang.model.type.TypeKind;
import javax.lang.model.type.TypeMirror;
import javax.tools.JavaCompiler;
import javax.tools.StandardJavaFileManager;
import javax.tools.ToolProvider;

/** The rules of LANGUAGE.md for which the program has to be read as the compiler reads it. */
final class RulesTest extends TreePathScanner<Void, Void> {
    private static final int MOST_DEPTH = 8;
    private static final int MOST_LINES = 60;
    private static final Set<String> LIBRARY = Set.of("java.lang.Math.max", "java.lang.Math.min", "java.lang.Math.abs",
            "java.lang.Integer.bitCount", "java.util.ArrayList.add", "java.util.ArrayList.get",
            "java.util.ArrayList.set", "java.util.ArrayList.remove", "java.util.ArrayList.size",
            "java.util.ArrayList.isEmpty", "java.util.ArrayList.clear", "java.util.ArrayList.<init>",
            "java.lang.Object.<init>");
    private static final Set<String> THROWN = Set.of("IllegalStateException", "IllegalArgumentException",
            "IndexOutOfBoundsException", "ArithmeticException", "UnsupportedOperationException",
            "NoSuchElementException", "RuntimeException");

    private final Trees trees;
    private final CompilationUnitTree unit;
    private final Map<String, Set<String>> calls = new TreeMap<>();
    private final Set<String> face = new TreeSet<>();
    private String here = "";
    private Set<String> compared = Set.of();

    private RulesTest(Trees trees, CompilationUnitTree unit) {
        this.trees = trees;
        this.unit = unit;
    }

    static void run(String file) throws IOException {
        JavaCompiler compiler = ToolProvider.getSystemJavaCompiler();
        try (StandardJavaFileManager files = compiler.getStandardFileManager(null, null, null)) {
            JavacTask task = (JavacTask) compiler.getTask(null, files, null, List.of("-proc:none"), null,
                    files.getJavaFileObjects(new File(file)));
            for (CompilationUnitTree unit : task.parse()) {
                task.analyze();
                RulesTest test = new RulesTest(Trees.instance(task), unit);
                test.scan(unit, null);
                test.depths();
            }
        }
    }

    private void rule(int number, boolean holds, Tree at) {
        if (!holds) {
            long line = unit.getLineMap().getLineNumber(trees.getSourcePositions().getStartPosition(unit, at));
            Check.due("rule " + number + ", line " + line + ", " + at, false);
        }
        Check.made += holds ? 1 : 0;
    }

    private static String name(Element called) {
        return ((TypeElement) called.getEnclosingElement()).getQualifiedName() + "." + called.getSimpleName();
    }

    private static boolean isOwn(String name) {
        return name.equals("BendTable") || name.startsWith("BendTable.");
    }

    // ---- rules 8 and 11: who calls whom

    private void depths() {
        for (String call : face) {
            int depth = depth(call, new HashSet<>());
            Check.due("rule 11: " + call + " goes " + depth + " deep", depth <= MOST_DEPTH);
        }
    }

    private int depth(String call, Set<String> open) {
        Check.due("rule 8: " + call + " calls itself", open.add(call));
        int most = 0;
        for (String next : calls.getOrDefault(call, Set.of())) {
            most = open.contains(next) ? 100 : Math.max(most, depth(next, open));
        }
        open.remove(call);
        return most + 1;
    }

    private void called(TreePath at) {
        String name = name(trees.getElement(at));
        if (isOwn(name)) {
            calls.computeIfAbsent(here, any -> new TreeSet<>()).add(name);
        } else if (!isThrown(at.getLeaf())) {
            rule(4, LIBRARY.contains(name), at.getLeaf());
        }
    }

    private static boolean isThrown(Tree tree) {
        return tree instanceof NewClassTree && THROWN.contains(((NewClassTree) tree).getIdentifier().toString());
    }

    // ---- what stands in the file

    @Override
    public Void visitMethod(MethodTree method, Void none) {
        Element made = trees.getElement(getCurrentPath());
        here = name(made);
        boolean isOpen = made.getModifiers().contains(Modifier.PUBLIC);
        rule(1, !isOpen || name(made).lastIndexOf('.') == "BendTable".length(), method);
        if (isOpen) {
            face.add(here);
        }
        rule(11, method.getParameters().size() <= 7, method);
        rule(11, lines(method) <= MOST_LINES, method);
        compared = comparedIn(method);
        return super.visitMethod(method, none);
    }

    private long lines(Tree tree) {
        long start = trees.getSourcePositions().getStartPosition(unit, tree);
        long end = trees.getSourcePositions().getEndPosition(unit, tree);
        return end < 0 ? 0 : unit.getLineMap().getLineNumber(end) - unit.getLineMap().getLineNumber(start) + 1;
    }

    /** What a method holds against a number that is written out. */
    private static Set<String> comparedIn(MethodTree method) {
        Set<String> found = new HashSet<>();
        new TreeScanner<Void, Void>() {
            @Override
            public Void visitBinary(BinaryTree tree, Void none) {
                switch (tree.getKind()) {
                    case LESS_THAN: case GREATER_THAN: case LESS_THAN_EQUAL: case GREATER_THAN_EQUAL: case EQUAL_TO:
                        if (tree.getRightOperand() instanceof LiteralTree) {
                            found.add(tree.getLeftOperand().toString());
                        }
                        break;
                    default:
                        break;
                }
                return super.visitBinary(tree, none);
            }
        }.scan(method, null);
        return found;
    }

    @Override
    public Void visitMethodInvocation(MethodInvocationTree tree, Void none) {
        called(new TreePath(getCurrentPath(), tree.getMethodSelect()));
        return super.visitMethodInvocation(tree, none);
    }

    @Override
    public Void visitNewClass(NewClassTree tree, Void none) {
        called(getCurrentPath());
        rule(6, !isThrown(tree) || getCurrentPath().getParentPath().getLeaf() instanceof ThrowTree, tree);
        return super.visitNewClass(tree, none);
    }

    @Override
    public Void visitThrow(ThrowTree tree, Void none) {
        rule(6, isThrown(tree.getExpression()) && !here.endsWith("<init>"), tree);
        for (ExpressionTree text : isThrown(tree.getExpression())
                ? ((NewClassTree) tree.getExpression()).getArguments() : List.<ExpressionTree>of()) {
            rule(6, text instanceof LiteralTree, tree);
        }
        return super.visitThrow(tree, none);
    }

    @Override
    public Void visitBinary(BinaryTree tree, Void none) {
        boolean isText = isText(tree.getLeftOperand()) || isText(tree.getRightOperand());
        rule(10, !isText, tree);
        if (tree.getKind() == Tree.Kind.DIVIDE || tree.getKind() == Tree.Kind.REMAINDER) {
            rule(7, isSafeDivisor(tree.getRightOperand()), tree);
        }
        return super.visitBinary(tree, none);
    }

    private boolean isText(ExpressionTree tree) {
        TypeMirror type = type(tree);
        return type != null && type.toString().equals("java.lang.String");
    }

    private TypeMirror type(Tree tree) {
        return trees.getTypeMirror(new TreePath(getCurrentPath(), tree));
    }

    /** A constant, a number with a point, or what the same method holds against a number that is written out. */
    private boolean isSafeDivisor(ExpressionTree divisor) {
        TypeKind kind = type(divisor).getKind();
        if (kind == TypeKind.FLOAT || kind == TypeKind.DOUBLE || compared.contains(divisor.toString())) {
            return true;
        }
        Element named = trees.getElement(new TreePath(getCurrentPath(), divisor));
        Object value = divisor instanceof LiteralTree ? ((LiteralTree) divisor).getValue()
                : named instanceof VariableElement ? ((VariableElement) named).getConstantValue() : null;
        return value instanceof Number && ((Number) value).longValue() != 0;
    }

    // ---- types and fields

    @Override
    public Void visitVariable(VariableTree tree, Void none) {
        Element made = trees.getElement(getCurrentPath());
        if (made.getKind() == ElementKind.FIELD) {
            // What a field starts with is made by the constructor.
            here = ((TypeElement) made.getEnclosingElement()).getQualifiedName() + ".<init>";
        }
        rule(3, isAllowed(made.asType()), tree);
        if (made.getModifiers().contains(Modifier.STATIC)) {
            rule(5, made.getModifiers().contains(Modifier.FINAL)
                    && ((VariableElement) made).getConstantValue() != null, tree);
        }
        return super.visitVariable(tree, none);
    }

    private static boolean isAllowed(TypeMirror type) {
        if (type.getKind().isPrimitive()) {
            return true;
        }
        if (type instanceof ArrayType) {
            return ((ArrayType) type).getComponentType().getKind().isPrimitive();
        }
        if (!(type instanceof DeclaredType)) {
            return false;
        }
        List<? extends TypeMirror> inside = ((DeclaredType) type).getTypeArguments();
        String name = ((TypeElement) ((DeclaredType) type).asElement()).getQualifiedName().toString();
        return isOwn(name) || (name.equals("java.util.ArrayList") && inside.size() == 1
                && isOwn(inside.get(0).toString()));
    }

    @Override
    public Void visitTypeCast(TypeCastTree tree, Void none) {
        rule(6, type(tree.getType()).getKind().isPrimitive(), tree);
        return super.visitTypeCast(tree, none);
    }

    // ---- what the program does without

    private Void none(int number, Tree tree) {
        rule(number, false, tree);
        return null;
    }

    @Override
    public Void visitTry(TryTree tree, Void none) {
        return none(6, tree);
    }

    @Override
    public Void visitInstanceOf(InstanceOfTree tree, Void none) {
        return none(6, tree);
    }

    @Override
    public Void visitLambdaExpression(LambdaExpressionTree tree, Void none) {
        return none(2, tree);
    }

    @Override
    public Void visitMemberReference(MemberReferenceTree tree, Void none) {
        return none(2, tree);
    }

    @Override
    public Void visitSynchronized(SynchronizedTree tree, Void none) {
        return none(6, tree);
    }

    @Override
    public Void visitAssert(AssertTree tree, Void none) {
        return none(6, tree);
    }

    @Override
    public Void visitIdentifier(IdentifierTree tree, Void none) {
        rule(13, !Set.of("System", "Runtime", "Thread", "Object").contains(tree.getName().toString()), tree);
        return super.visitIdentifier(tree, none);
    }
}
