import com.sun.source.tree.*;
import com.sun.source.util.JavacTask;
import com.sun.source.util.TreePath;
import com.sun.source.util.TreePathScanner;
import com.sun.source.util.Trees;
import java.io.IOException;
import java.nio.file.Path;
import java.util.ArrayList;
import java.util.HashMap;
import java.util.LinkedHashSet;
import java.util.List;
import java.util.Map;
import java.util.Set;
import javax.lang.model.element.Element;
import javax.lang.model.element.ElementKind;
import javax.lang.model.element.ExecutableElement;
import javax.lang.model.element.Modifier;
import javax.lang.model.type.ArrayType;
import javax.lang.model.type.TypeKind;
import javax.lang.model.type.TypeMirror;
import javax.tools.JavaCompiler;
import javax.tools.JavaFileObject;
import javax.tools.StandardJavaFileManager;
import javax.tools.ToolProvider;

/**
 * The rules of LANGUAGE.md by their numbers, as far as the compiler's own tree of the source can
 * show them. It is stricter than they are where the program has no need of what they leave: no
 * texts, no lists, no recursion, no loops but for, and nothing made but in constructors.
 */
public final class BasisMovesLanguageTest extends TreePathScanner<Void, Void> {
    private static final Set<String> LIBRARY = Set.of("java.util.Arrays.fill", "java.lang.System.arraycopy",
            "java.lang.Math.abs", "java.lang.Math.min", "java.lang.Math.max");
    private static final Set<TypeKind> PLAIN = Set.of(TypeKind.INT, TypeKind.LONG, TypeKind.BOOLEAN);
    private static final int MOST_LINES = 60;
    private static final int MOST_PARAMETERS = 7;
    private static final int MOST_CLASSES = 12;
    private static final int MOST_FIELDS = 20;
    private static final int DEEPEST = 8;
    private static int wrong = 0;

    private final Trees trees;
    private final CompilationUnitTree unit;
    private final Map<Element, Set<Element>> calls = new HashMap<>();
    private final List<String> publicNames = new ArrayList<>();
    private final List<String> privateNames = new ArrayList<>();
    private int classes = 0;

    private BasisMovesLanguageTest(Trees trees, CompilationUnitTree unit) {
        this.trees = trees;
        this.unit = unit;
    }

    public static void main(String[] args) throws IOException {
        String path = System.getProperty("basismoves.source", "src/main/java/BasisMoves.java");
        JavaCompiler compiler = ToolProvider.getSystemJavaCompiler();
        try (StandardJavaFileManager files = compiler.getStandardFileManager(null, null, null)) {
            Iterable<? extends JavaFileObject> sources = files.getJavaFileObjects(Path.of(path));
            JavacTask task = (JavacTask) compiler.getTask(null, files, null, List.of("-proc:none"), null, sources);
            CompilationUnitTree unit = task.parse().iterator().next();
            task.analyze();
            BasisMovesLanguageTest scan = new BasisMovesLanguageTest(Trees.instance(task), unit);
            scan.checkUnit();
            scan.scan(unit, null);
            scan.checkWhole();
        }
        System.out.println(wrong == 0 ? "the rules are kept" : wrong + " rules are broken");
        if (wrong != 0) {
            System.exit(1);
        }
    }

    private void rule(int number, boolean good, Tree at, String what) {
        if (!good) {
            wrong++;
            System.out.println("rule " + number + ", line " + line(at) + ": " + what);
        }
    }

    private long line(Tree at) {
        return unit.getLineMap().getLineNumber(trees.getSourcePositions().getStartPosition(unit, at));
    }

    private long lastLine(Tree at) {
        return unit.getLineMap().getLineNumber(trees.getSourcePositions().getEndPosition(unit, at));
    }

    private Element here() {
        return trees.getElement(getCurrentPath());
    }

    private void checkUnit() {
        rule(1, unit.getPackage() == null, unit, "no package line");
        rule(1, unit.getTypeDecls().size() == 1, unit, "one class");
        for (ImportTree one : unit.getImports()) {
            rule(4, one.getQualifiedIdentifier().toString().equals("java.util.Arrays"), one, "import");
        }
    }

    /** What shows only when all is read: names, and how calls go into one another. */
    private void checkWhole() {
        rule(11, classes <= MOST_CLASSES, unit, classes + " classes");
        for (String name : privateNames) {
            rule(1, !publicNames.contains(name), unit, "a private method bears a public name: " + name);
        }
        for (Element method : calls.keySet()) {
            int depth = depth(method, new LinkedHashSet<>());
            rule(11, depth <= DEEPEST, unit, method + " goes " + depth + " deep");
        }
    }

    private int depth(Element method, Set<Element> open) {
        if (!open.add(method)) {
            rule(8, false, unit, "recursion: " + open);
            return 0;
        }
        int deepest = 0;
        for (Element called : calls.getOrDefault(method, Set.of())) {
            deepest = Math.max(deepest, depth(called, open));
        }
        open.remove(method);
        return deepest + 1;
    }

    @Override
    public Void visitClass(ClassTree tree, Void nothing) {
        classes++;
        Set<Modifier> modifiers = tree.getModifiers().getFlags();
        boolean outer = getCurrentPath().getParentPath().getLeaf() == unit;
        rule(2, outer || getCurrentPath().getParentPath().getLeaf() instanceof ClassTree, tree, "a local class");
        rule(2, outer || modifiers.contains(Modifier.STATIC), tree, "a class inside that is not static");
        rule(1, outer == modifiers.contains(Modifier.PUBLIC), tree, "public: the class, and none inside");
        rule(1, !outer || modifiers.contains(Modifier.FINAL), tree, "final");
        rule(1, !modifiers.contains(Modifier.PROTECTED), tree, "protected");
        int fields = 0;
        for (Tree member : tree.getMembers()) {
            fields += member instanceof VariableTree field
                    && !field.getModifiers().getFlags().contains(Modifier.STATIC) ? 1 : 0;
            rule(5, !(member instanceof BlockTree), member, "an initialiser block");
        }
        rule(11, fields <= MOST_FIELDS, tree, fields + " fields");
        return super.visitClass(tree, nothing);
    }

    @Override
    public Void visitMethod(MethodTree tree, Void nothing) {
        Element method = here();
        boolean isPublic = tree.getModifiers().getFlags().contains(Modifier.PUBLIC);
        boolean isPrivate = tree.getModifiers().getFlags().contains(Modifier.PRIVATE);
        rule(1, isPublic || isPrivate, tree, "neither public nor private: " + tree.getName());
        if (method.getKind() == ElementKind.METHOD) {
            (isPublic ? publicNames : privateNames).add(tree.getName().toString());
        }
        rule(11, tree.getParameters().size() <= MOST_PARAMETERS, tree, "parameters of " + tree.getName());
        rule(11, lastLine(tree) - line(tree) < MOST_LINES, tree, "lines of " + tree.getName());
        rule(6, tree.getThrows().isEmpty(), tree, "throws");
        calls.computeIfAbsent(method, none -> new LinkedHashSet<>());
        return super.visitMethod(tree, nothing);
    }

    @Override
    public Void visitVariable(VariableTree tree, Void nothing) {
        rule(3, isAllowed(trees.getTypeMirror(getCurrentPath())), tree, "the type of " + tree.getName());
        Set<Modifier> modifiers = tree.getModifiers().getFlags();
        if (modifiers.contains(Modifier.STATIC)) {
            rule(5, modifiers.contains(Modifier.FINAL), tree, "static and not final: " + tree.getName());
            rule(5, isConstant(tree), tree, "not written out: " + tree.getName());
        }
        if (here().getKind() == ElementKind.FIELD) {
            rule(1, modifiers.contains(Modifier.PRIVATE)
                    || modifiers.containsAll(Set.of(Modifier.PUBLIC, Modifier.STATIC)), tree, "seen from outside");
        }
        return super.visitVariable(tree, nothing);
    }

    /** Numbers, arrays of numbers of one dimension or two, and the program's own classes. */
    private static boolean isAllowed(TypeMirror type) {
        TypeMirror inner = type;
        for (int i = 0; i < 2 && inner instanceof ArrayType array; i++) {
            inner = array.getComponentType();
        }
        return PLAIN.contains(inner.getKind()) || type.toString().startsWith("BasisMoves.");
    }

    /** A number, or an array of numbers written out. */
    private static boolean isConstant(VariableTree tree) {
        if (tree.getInitializer() instanceof NewArrayTree array) {
            boolean all = array.getInitializers() != null;
            for (ExpressionTree one : all ? array.getInitializers() : List.<ExpressionTree>of()) {
                all &= isNumber(one);
            }
            return all;
        }
        return isNumber(tree.getInitializer());
    }

    private static boolean isNumber(ExpressionTree tree) {
        return tree instanceof LiteralTree
                || tree instanceof UnaryTree unary && unary.getExpression() instanceof LiteralTree;
    }

    @Override
    public Void visitAssignment(AssignmentTree tree, Void nothing) {
        checkChanged(tree.getVariable());
        return super.visitAssignment(tree, nothing);
    }

    @Override
    public Void visitCompoundAssignment(CompoundAssignmentTree tree, Void nothing) {
        checkChanged(tree.getVariable());
        rule(10, isAllowed(trees.getTypeMirror(getCurrentPath())), tree, "joins texts");
        return super.visitCompoundAssignment(tree, nothing);
    }

    @Override
    public Void visitUnary(UnaryTree tree, Void nothing) {
        boolean pure = Set.of(Tree.Kind.UNARY_MINUS, Tree.Kind.UNARY_PLUS, Tree.Kind.LOGICAL_COMPLEMENT,
                Tree.Kind.BITWISE_COMPLEMENT).contains(tree.getKind());
        if (!pure) {
            checkChanged(tree.getExpression());
        }
        return super.visitUnary(tree, nothing);
    }

    private void checkChanged(ExpressionTree target) {
        ExpressionTree array = target;
        while (array instanceof ArrayAccessTree access) {
            array = access.getExpression();
        }
        Element changed = trees.getElement(new TreePath(getCurrentPath(), array));
        rule(5, changed == null || !changed.getModifiers().contains(Modifier.STATIC), target, "static, changed");
    }

    @Override
    public Void visitMethodInvocation(MethodInvocationTree tree, Void nothing) {
        noteCall(tree);
        return super.visitMethodInvocation(tree, nothing);
    }

    @Override
    public Void visitNewClass(NewClassTree tree, Void nothing) {
        rule(2, tree.getClassBody() == null, tree, "an anonymous class");
        rule(12, madeInConstructor(), tree, "an object made by a call");
        noteCall(tree);
        return super.visitNewClass(tree, nothing);
    }

    @Override
    public Void visitNewArray(NewArrayTree tree, Void nothing) {
        rule(12, madeInConstructor(), tree, "an array made by a call");
        return super.visitNewArray(tree, nothing);
    }

    private boolean madeInConstructor() {
        MethodTree method = method();
        return method == null || method.getReturnType() == null;
    }

    private MethodTree method() {
        for (Tree tree : getCurrentPath()) {
            if (tree instanceof MethodTree method) {
                return method;
            }
        }
        return null;
    }

    private void noteCall(Tree tree) {
        if (!(here() instanceof ExecutableElement called)) {
            rule(4, false, tree, "a call that can't be told");
            return;
        }
        String owner = called.getEnclosingElement().toString();
        if (owner.startsWith("BasisMoves")) {
            MethodTree method = method();
            Element from = method == null ? null : trees.getElement(trees.getPath(unit, method));
            calls.computeIfAbsent(from, none -> new LinkedHashSet<>()).add(called);
        } else if (!owner.equals("java.lang.Object")) {
            // (The constructor of a class calls that of Object, unseen in the source.)
            rule(4, LIBRARY.contains(owner + "." + called.getSimpleName()), tree, owner + "." + called);
        }
    }

    @Override
    public Void visitBinary(BinaryTree tree, Void nothing) {
        rule(10, isAllowed(trees.getTypeMirror(getCurrentPath())), tree, "joins texts");
        return super.visitBinary(tree, nothing);
    }

    @Override
    public Void visitForLoop(ForLoopTree tree, Void nothing) {
        rule(9, tree.getCondition() != null && !tree.getUpdate().isEmpty(), tree, "a loop without an end");
        return super.visitForLoop(tree, nothing);
    }

    @Override
    public Void visitEnhancedForLoop(EnhancedForLoopTree tree, Void nothing) {
        TypeMirror over = trees.getTypeMirror(new TreePath(getCurrentPath(), tree.getExpression()));
        rule(9, over instanceof ArrayType, tree, "a loop over something that is no array");
        return super.visitEnhancedForLoop(tree, nothing);
    }

    private Void never(int rule, Tree tree) {
        rule(rule, false, tree, tree.getKind().toString());
        return null;
    }

    @Override
    public Void visitWhileLoop(WhileLoopTree tree, Void nothing) {
        return never(9, tree);
    }

    @Override
    public Void visitDoWhileLoop(DoWhileLoopTree tree, Void nothing) {
        return never(9, tree);
    }

    @Override
    public Void visitLambdaExpression(LambdaExpressionTree tree, Void nothing) {
        return never(2, tree);
    }

    @Override
    public Void visitMemberReference(MemberReferenceTree tree, Void nothing) {
        return never(2, tree);
    }

    @Override
    public Void visitThrow(ThrowTree tree, Void nothing) {
        return never(6, tree);
    }

    @Override
    public Void visitTry(TryTree tree, Void nothing) {
        return never(6, tree);
    }

    @Override
    public Void visitSynchronized(SynchronizedTree tree, Void nothing) {
        return never(6, tree);
    }

    @Override
    public Void visitAssert(AssertTree tree, Void nothing) {
        return never(6, tree);
    }

    @Override
    public Void visitTypeCast(TypeCastTree tree, Void nothing) {
        return never(6, tree);
    }

    @Override
    public Void visitInstanceOf(InstanceOfTree tree, Void nothing) {
        return never(6, tree);
    }
}
