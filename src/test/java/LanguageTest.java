import com.sun.source.tree.ArrayAccessTree;
import com.sun.source.tree.AssertTree;
import com.sun.source.tree.AssignmentTree;
import com.sun.source.tree.BinaryTree;
import com.sun.source.tree.BlockTree;
import com.sun.source.tree.ClassTree;
import com.sun.source.tree.CompilationUnitTree;
import com.sun.source.tree.CompoundAssignmentTree;
import com.sun.source.tree.DoWhileLoopTree;
import com.sun.source.tree.EnhancedForLoopTree;
import com.sun.source.tree.ExpressionTree;
import com.sun.source.tree.ForLoopTree;
import com.sun.source.tree.ImportTree;
import com.sun.source.tree.LambdaExpressionTree;
import com.sun.source.tree.LiteralTree;
import com.sun.source.tree.MemberReferenceTree;
import com.sun.source.tree.MethodInvocationTree;
import com.sun.source.tree.MethodTree;
import com.sun.source.tree.NewArrayTree;
import com.sun.source.tree.NewClassTree;
import com.sun.source.tree.SwitchExpressionTree;
import com.sun.source.tree.SynchronizedTree;
import com.sun.source.tree.ThrowTree;
import com.sun.source.tree.Tree;
import com.sun.source.tree.TryTree;
import com.sun.source.tree.TypeCastTree;
import com.sun.source.tree.UnaryTree;
import com.sun.source.tree.VariableTree;
import com.sun.source.tree.WhileLoopTree;
import com.sun.source.util.JavacTask;
import com.sun.source.util.TreePath;
import com.sun.source.util.TreePathScanner;
import com.sun.source.util.Trees;
import java.io.File;
import java.nio.file.Files;
import java.nio.file.Path;
import java.util.HashMap;
import java.util.HashSet;
import java.util.List;
import java.util.Map;
import java.util.Set;
import javax.lang.model.element.Element;
import javax.lang.model.element.ElementKind;
import javax.lang.model.element.ExecutableElement;
import javax.lang.model.element.Modifier;
import javax.lang.model.type.ArrayType;
import javax.lang.model.type.TypeKind;
import javax.lang.model.type.TypeMirror;
import javax.tools.JavaCompiler;
import javax.tools.StandardJavaFileManager;
import javax.tools.ToolProvider;

/**
 * The class keeps to the rules of LANGUAGE.md that the compiler's tree of it can tell. Where the class does without a
 * part of Java that the rules allow, this part is refused as well: whoever needs it looks at its rule first.
 */
public final class LanguageTest extends TreePathScanner<Void, Void> {
    private static final Path SOURCE = Path.of("src/main/java/Roomandhour.java");
    private static final Set<String> IMPORTS = Set.of("java.util.Arrays", "java.util.NoSuchElementException");
    private static final Set<String> LIBRARY = Set.of("java.lang.Integer.bitCount", "java.lang.Math.max", "java.lang.Math.min",
        "java.lang.System.arraycopy", "java.util.Arrays.fill");
    private static final Set<String> EXCEPTIONS = Set.of("IllegalStateException", "IllegalArgumentException",
        "IndexOutOfBoundsException", "NoSuchElementException");
    private static final Set<String> NOT_OF_OBJECTS = Set.of("equals", "hashCode", "toString", "getClass", "wait", "notify");
    private static final int MOST_CLASSES = 12, MOST_FIELDS = 20, MOST_LINES = 60, MOST_PARAMETERS = 7, MOST_DEEP = 8;

    private final Trees trees;
    private final CompilationUnitTree unit;
    /** For each method those of the class that it calls. */
    private final Map<Element, Set<Element>> calls = new HashMap<>();
    private int classes = 0;
    private int looked = 0;
    private int wrong = 0;

    private LanguageTest(Trees trees, CompilationUnitTree unit) {
        this.trees = trees;
        this.unit = unit;
    }

    public static void main(String[] args) throws Exception {
        JavaCompiler compiler = ToolProvider.getSystemJavaCompiler();
        StandardJavaFileManager files = compiler.getStandardFileManager(null, null, null);
        JavacTask task = (JavacTask) compiler.getTask(null, files, null, List.of("-proc:none"), null,
            files.getJavaFileObjects(new File(SOURCE.toString())));
        CompilationUnitTree unit = task.parse().iterator().next();
        task.analyze();
        LanguageTest test = new LanguageTest(Trees.instance(task), unit);
        test.scan(new TreePath(unit), null);
        test.look(unit, unit.getPackageName() == null, 1, "there is a package line");
        test.look(unit, test.classes <= MOST_CLASSES, 11, test.classes + " classes");
        test.look(unit, Files.readString(SOURCE).chars().allMatch(sign -> sign > 0 && sign < 127), 4, "a sign above 126");
        test.depths();
        System.out.println(test.classes + " classes, " + test.calls.size() + " methods, " + test.looked + " places looked at, "
            + test.wrong + " wrong");
        if (test.wrong > 0) {
            System.exit(1);
        }
    }

    // ---- classes, fields and methods

    @Override
    public Void visitImport(ImportTree tree, Void none) {
        look(tree, !tree.isStatic() && IMPORTS.contains(tree.getQualifiedIdentifier().toString()), 4, "an import");
        return super.visitImport(tree, none);
    }

    @Override
    public Void visitClass(ClassTree tree, Void none) {
        classes++;
        boolean inside = getCurrentPath().getParentPath().getLeaf() != unit;
        Set<Modifier> flags = tree.getModifiers().getFlags();
        look(tree, tree.getKind() == Tree.Kind.CLASS && flags.contains(Modifier.FINAL), 2, "another kind of class");
        look(tree, !inside || flags.contains(Modifier.PRIVATE) && flags.contains(Modifier.STATIC), 1, "a class inside");
        look(tree, !inside || getCurrentPath().getParentPath().getLeaf() instanceof ClassTree, 2, "a class in a method");
        int fields = 0;
        for (Tree member : tree.getMembers()) {
            boolean constant = member instanceof VariableTree && ((VariableTree) member).getModifiers().getFlags().contains(Modifier.STATIC);
            fields += member instanceof VariableTree && !constant ? 1 : 0;
            look(member, !(member instanceof BlockTree), 5, "a block of initialisers");
        }
        look(tree, fields <= MOST_FIELDS, 11, fields + " fields");
        return super.visitClass(tree, none);
    }

    @Override
    public Void visitVariable(VariableTree tree, Void none) {
        look(tree, isAllowed(typeOf(tree)), 3, "a variable of the type " + typeOf(tree));
        if (tree.getModifiers().getFlags().contains(Modifier.STATIC)) {
            look(tree, tree.getModifiers().getFlags().contains(Modifier.FINAL), 5, "a static field that is not final");
            boolean row = typeOf(tree).getKind() == TypeKind.ARRAY;
            look(tree, row ? isWrittenRow(tree.getInitializer()) : typeOf(tree).getKind() == TypeKind.INT, 5, "another static field");
        }
        return super.visitVariable(tree, none);
    }

    @Override
    public Void visitMethod(MethodTree tree, Void none) {
        Element method = trees.getElement(getCurrentPath());
        calls.putIfAbsent(method, new HashSet<>());
        look(tree, tree.getParameters().size() <= MOST_PARAMETERS, 11, "too many parameters");
        long from = unit.getLineMap().getLineNumber(trees.getSourcePositions().getStartPosition(unit, tree));
        long end = trees.getSourcePositions().getEndPosition(unit, tree);
        look(tree, end < 0 || unit.getLineMap().getLineNumber(end) - from < MOST_LINES, 11, "a long method");
        TypeMirror answer = ((ExecutableElement) method).getReturnType();
        look(tree, answer.getKind() == TypeKind.VOID || isAllowed(answer), 3, "an answer of the type " + answer);
        look(tree, !NOT_OF_OBJECTS.contains(tree.getName().toString()), 6, "a method of Object");
        return super.visitMethod(tree, none);
    }

    // ---- calls, objects and exceptions

    @Override
    public Void visitMethodInvocation(MethodInvocationTree tree, Void none) {
        Element called = trees.getElement(getCurrentPath());
        if (called.getKind() != ElementKind.CONSTRUCTOR) {
            if (isOwn(called.getEnclosingElement())) {
                look(tree, enclosingMethod() != null, 12, "a call in a field's initialiser");
                calls.computeIfAbsent(trees.getElement(enclosingMethod()), method -> new HashSet<>()).add(called);
            } else {
                look(tree, LIBRARY.contains(called.getEnclosingElement() + "." + called.getSimpleName()), 4, "the call " + called);
            }
        }
        return super.visitMethodInvocation(tree, none);
    }

    @Override
    public Void visitNewClass(NewClassTree tree, Void none) {
        if (isOwn(trees.getElement(getCurrentPath()).getEnclosingElement())) {
            look(tree, isMadeOnce() && tree.getClassBody() == null, 12, "an object made by a call");
        } else {
            look(tree, getCurrentPath().getParentPath().getLeaf() instanceof ThrowTree, 4, "an object of the library");
        }
        return super.visitNewClass(tree, none);
    }

    @Override
    public Void visitNewArray(NewArrayTree tree, Void none) {
        look(tree, isMadeOnce() && tree.getDimensions().size() <= 1, 12, "a row made by a call");
        return super.visitNewArray(tree, none);
    }

    @Override
    public Void visitThrow(ThrowTree tree, Void none) {
        ExpressionTree thrown = tree.getExpression();
        look(tree, thrown instanceof NewClassTree && EXCEPTIONS.contains(((NewClassTree) thrown).getIdentifier().toString())
            && ((NewClassTree) thrown).getArguments().stream().allMatch(text -> text instanceof LiteralTree), 6, "a throw");
        TreePath method = enclosingMethod();
        look(tree, method != null && trees.getElement(method).getKind() == ElementKind.METHOD, 6, "a throw in a constructor");
        return super.visitThrow(tree, none);
    }

    // ---- expressions

    @Override
    public Void visitBinary(BinaryTree tree, Void none) {
        TypeKind type = kindOf(tree);
        switch (tree.getKind()) {
            case AND:
            case OR:
            case XOR:
                look(tree, type != TypeKind.BOOLEAN, 10, "&, | or ^ of booleans");
                break;
            case PLUS:
                look(tree, type != TypeKind.DECLARED, 10, "texts joined by +");
                break;
            case DIVIDE:
            case REMAINDER:
                look(tree, type == TypeKind.DOUBLE || type == TypeKind.FLOAT, 7, "a division of whole numbers");
                break;
            default:
                break;
        }
        return super.visitBinary(tree, none);
    }

    @Override
    public Void visitCompoundAssignment(CompoundAssignmentTree tree, Void none) {
        look(tree, kindOf(tree) != TypeKind.BOOLEAN, 10, "&=, |= or ^= of a boolean");
        look(tree, tree.getKind() != Tree.Kind.DIVIDE_ASSIGNMENT && tree.getKind() != Tree.Kind.REMAINDER_ASSIGNMENT, 7, "a division");
        keepsConstants(tree.getVariable());
        return super.visitCompoundAssignment(tree, none);
    }

    @Override
    public Void visitAssignment(AssignmentTree tree, Void none) {
        keepsConstants(tree.getVariable());
        return super.visitAssignment(tree, none);
    }

    @Override
    public Void visitUnary(UnaryTree tree, Void none) {
        keepsConstants(tree.getExpression());
        return super.visitUnary(tree, none);
    }

    @Override
    public Void visitTypeCast(TypeCastTree tree, Void none) {
        look(tree, kindOf(tree).isPrimitive(), 6, "a cast of an object");
        return super.visitTypeCast(tree, none);
    }

    // ---- loops

    @Override
    public Void visitForLoop(ForLoopTree tree, Void none) {
        look(tree, tree.getCondition() != null && tree.getUpdate().size() == 1, 9, "a loop without a counter or a bound");
        return super.visitForLoop(tree, none);
    }

    @Override
    public Void visitWhileLoop(WhileLoopTree tree, Void none) {
        return refuse(tree, 9);
    }

    @Override
    public Void visitDoWhileLoop(DoWhileLoopTree tree, Void none) {
        return refuse(tree, 9);
    }

    @Override
    public Void visitEnhancedForLoop(EnhancedForLoopTree tree, Void none) {
        return refuse(tree, 12);
    }

    // ---- what the class does without

    @Override
    public Void visitTry(TryTree tree, Void none) {
        return refuse(tree, 6);
    }

    @Override
    public Void visitSynchronized(SynchronizedTree tree, Void none) {
        return refuse(tree, 6);
    }

    @Override
    public Void visitAssert(AssertTree tree, Void none) {
        return refuse(tree, 6);
    }

    @Override
    public Void visitLambdaExpression(LambdaExpressionTree tree, Void none) {
        return refuse(tree, 2);
    }

    @Override
    public Void visitMemberReference(MemberReferenceTree tree, Void none) {
        return refuse(tree, 2);
    }

    @Override
    public Void visitSwitchExpression(SwitchExpressionTree tree, Void none) {
        return refuse(tree, 10);
    }

    private Void refuse(Tree tree, int rule) {
        look(tree, false, rule, "" + tree.getKind());
        return null;
    }

    // ---- how deep calls go

    private void depths() {
        for (Element method : calls.keySet()) {
            boolean recursive = calls.get(method).contains(method);
            look(unit, !recursive || method.getModifiers().contains(Modifier.PRIVATE), 8, method + " calls itself and is not private");
            int deep = deepFrom(method, 0);
            look(unit, deep <= MOST_DEEP, 11, "calls from " + method + " go " + deep + " deep");
        }
    }

    private int deepFrom(Element method, int above) {
        if (above > 3 * MOST_DEEP) {
            return 1; // methods that call one another in a ring: deep enough to be told
        }
        int deepest = 0;
        for (Element called : calls.getOrDefault(method, Set.of())) {
            if (called != method) {
                deepest = Math.max(deepest, deepFrom(called, above + 1));
            }
        }
        return deepest + 1;
    }

    // ---- what the rules ask of a place

    private void look(Tree tree, boolean holds, int rule, String what) {
        looked++;
        if (!holds) {
            wrong++;
            long position = trees.getSourcePositions().getStartPosition(unit, tree);
            System.out.println("rule " + rule + ", line " + unit.getLineMap().getLineNumber(Math.max(position, 0)) + ": " + what);
        }
    }

    /** Whether an object or a row is made with its object, not by a call: then no call needs to be counted. */
    private boolean isMadeOnce() {
        TreePath method = enclosingMethod();
        return method == null || trees.getElement(method).getKind() == ElementKind.CONSTRUCTOR;
    }

    private TreePath enclosingMethod() {
        for (TreePath path = getCurrentPath(); path != null; path = path.getParentPath()) {
            if (path.getLeaf() instanceof MethodTree) {
                return path;
            }
        }
        return null;
    }

    private void keepsConstants(ExpressionTree changed) {
        if (changed instanceof ArrayAccessTree) {
            Element row = trees.getElement(new TreePath(getCurrentPath(), ((ArrayAccessTree) changed).getExpression()));
            boolean writes = !(getCurrentPath().getLeaf() instanceof UnaryTree) || getCurrentPath().getLeaf().getKind().name().contains("CREMENT");
            look(changed, !writes || row == null || !row.getModifiers().contains(Modifier.STATIC), 5, "a constant row is changed");
        }
    }

    private static boolean isWrittenRow(ExpressionTree row) {
        return row instanceof NewArrayTree && ((NewArrayTree) row).getInitializers() != null;
    }

    private static boolean isAllowed(TypeMirror type) {
        if (type.getKind() == TypeKind.ARRAY) {
            return ((ArrayType) type).getComponentType().getKind().isPrimitive();
        }
        return type.getKind().isPrimitive() || type.toString().startsWith("Roomandhour.");
    }

    private static boolean isOwn(Element type) {
        return type.toString().equals("Roomandhour") || type.toString().startsWith("Roomandhour.");
    }

    private TypeMirror typeOf(Tree tree) {
        return trees.getTypeMirror(new TreePath(getCurrentPath().getParentPath(), tree));
    }

    private TypeKind kindOf(Tree tree) {
        return typeOf(tree).getKind();
    }
}
