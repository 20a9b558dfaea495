import com.sun.source.tree.AnnotationTree;
import com.sun.source.tree.AssertTree;
import com.sun.source.tree.BinaryTree;
import com.sun.source.tree.BlockTree;
import com.sun.source.tree.CatchTree;
import com.sun.source.tree.ClassTree;
import com.sun.source.tree.CompilationUnitTree;
import com.sun.source.tree.DoWhileLoopTree;
import com.sun.source.tree.EnhancedForLoopTree;
import com.sun.source.tree.ExpressionStatementTree;
import com.sun.source.tree.ExpressionTree;
import com.sun.source.tree.ForLoopTree;
import com.sun.source.tree.IdentifierTree;
import com.sun.source.tree.LambdaExpressionTree;
import com.sun.source.tree.MemberReferenceTree;
import com.sun.source.tree.MethodInvocationTree;
import com.sun.source.tree.MethodTree;
import com.sun.source.tree.NewArrayTree;
import com.sun.source.tree.NewClassTree;
import com.sun.source.tree.ParenthesizedTree;
import com.sun.source.tree.SwitchExpressionTree;
import com.sun.source.tree.SynchronizedTree;
import com.sun.source.tree.ThrowTree;
import com.sun.source.tree.Tree;
import com.sun.source.tree.TryTree;
import com.sun.source.tree.UnaryTree;
import com.sun.source.tree.VariableTree;
import com.sun.source.tree.WhileLoopTree;
import com.sun.source.tree.YieldTree;
import com.sun.source.util.JavacTask;
import com.sun.source.util.TreePath;
import com.sun.source.util.TreePathScanner;
import com.sun.source.util.Trees;
import java.nio.file.Files;
import java.nio.file.Path;
import java.util.List;
import java.util.Set;
import java.util.regex.Pattern;
import javax.lang.model.element.Element;
import javax.lang.model.element.ElementKind;
import javax.lang.model.element.Modifier;
import javax.lang.model.type.TypeKind;
import javax.lang.model.type.TypeMirror;
import javax.tools.JavaCompiler;
import javax.tools.StandardJavaFileManager;
import javax.tools.ToolProvider;

/**
 * The rules of LANGUAGE.md, as far as they can be read off the program: it is parsed by the compiler, and each part of
 * it is looked at. What a rule leaves to a limit or to a guard is tested more strictly than the rule asks, since the
 * program needs no more: no recursion, nothing made in a loop, every loop with a counter. Run from the project's root.
 */
public final class LanguageTest extends TreePathScanner<Void, Void> {
    private static final Path SOURCE = Path.of("src/main/java/PageRescue.java");
    private static final List<Class<? extends Tree>> FORBIDDEN = List.of(
        LambdaExpressionTree.class, MemberReferenceTree.class, TryTree.class, CatchTree.class, ThrowTree.class,
        SynchronizedTree.class, AssertTree.class, AnnotationTree.class, SwitchExpressionTree.class, YieldTree.class);
    private static final Set<String> IMPORTS = Set.of("java.util.ArrayList", "java.util.List", "java.util.Arrays");
    private static final Set<String> LIBRARY = Set.of(
        "java.lang.Math.max", "java.lang.Math.min", "java.lang.Math.abs", "java.util.Arrays.fill",
        "java.util.Arrays.copyOf", "java.util.ArrayList.<init>", "java.util.ArrayList.add", "java.util.ArrayList.get",
        "java.util.ArrayList.size", "java.util.ArrayList.isEmpty", "java.lang.Object.<init>");
    private static final Pattern TYPE = Pattern.compile(
        "void|(int|long|boolean)(\\[\\])?|PageRescue(\\.\\w+)?|java\\.util\\.ArrayList<PageRescue\\.\\w+>");
    private static final Pattern CONSTANT = Pattern.compile("int|long|boolean|char|java\\.lang\\.String|(int|long|char|byte)\\[\\]");
    private static final Set<Tree.Kind> BOUNDS = Set.of(
        Tree.Kind.LESS_THAN, Tree.Kind.LESS_THAN_EQUAL, Tree.Kind.GREATER_THAN, Tree.Kind.GREATER_THAN_EQUAL);
    private static final Set<Tree.Kind> COUNTED = Set.of(Tree.Kind.POSTFIX_INCREMENT, Tree.Kind.POSTFIX_DECREMENT);
    private static final String FIELDS = ".fields";
    private static final int MOST_PARAMETERS = 7;
    private static final int MOST_LINES = 60;
    private static final int MOST_CLASSES = 12;
    private static final int MOST_FIELDS = 20;
    private static final int MOST_DEPTH = 8;

    private final Trees trees;
    private final CompilationUnitTree unit;
    private final CallGraph calls = new CallGraph();
    private int classes = 0;
    private int methods = 0;
    private int loops = 0;
    private int openLoops = 0;

    private LanguageTest(Trees trees, CompilationUnitTree unit) {
        this.trees = trees;
        this.unit = unit;
    }

    public static void main(String[] args) throws Exception {
        JavaCompiler compiler = ToolProvider.getSystemJavaCompiler();
        try (StandardJavaFileManager files = compiler.getStandardFileManager(null, null, null)) {
            JavacTask task = (JavacTask) compiler.getTask(null, files, null, List.of("-proc:none", "--release", "17"), null,
                files.getJavaFileObjects(SOURCE));
            CompilationUnitTree unit = task.parse().iterator().next();
            task.analyze();
            LanguageTest test = new LanguageTest(Trees.instance(task), unit);
            test.scan(unit, null);
            test.wholeFile(Files.readString(SOURCE));
        }
        Due.end();
    }

    private void wholeFile(String text) {
        Due.that("without a package line", unit.getPackage() == null);
        Due.same("classes that are not inside", unit.getTypeDecls().size(), 1);
        unit.getImports().forEach(each -> rule(4, IMPORTS.contains(each.getQualifiedIdentifier().toString()), each));
        Due.that("rule 11: classes", classes <= MOST_CLASSES);
        Due.that("rule 11: calls go at most " + MOST_DEPTH + " deep, not " + calls.depth(), calls.depth() <= MOST_DEPTH);
        Due.that("rule 8: no recursion", !calls.isRecursive());
        Due.that("rule 3: characters 0 to 255", text.chars().allMatch(c -> c <= 255));
        Due.that("all was looked at", classes > 5 && methods > 40 && loops > 10 && calls.depth() > 3);
    }

    private void rule(int number, boolean holds, Tree tree) {
        if (!holds) {
            long at = trees.getSourcePositions().getStartPosition(unit, tree);
            String line = unit.getLineMap().getLineNumber(at) + ": " + tree.toString().trim().lines().findFirst().orElse("");
            Due.that("rule " + number + " holds at line " + line, false);
        }
    }

    @Override
    public Void scan(Tree tree, Void unused) {
        for (Class<? extends Tree> forbidden : FORBIDDEN) {
            rule(6, !forbidden.isInstance(tree), tree);
        }
        return super.scan(tree, unused);
    }

    @Override
    public Void visitClass(ClassTree tree, Void unused) {
        classes++;
        Tree around = getCurrentPath().getParentPath().getLeaf();
        boolean isOuter = around instanceof CompilationUnitTree;
        Set<Modifier> modifiers = tree.getModifiers().getFlags();
        rule(2, isOuter || around instanceof ClassTree && modifiers.contains(Modifier.STATIC), tree);
        rule(1, isOuter || !modifiers.contains(Modifier.PUBLIC) && !modifiers.contains(Modifier.PROTECTED), tree);
        int fields = 0;
        for (Tree member : tree.getMembers()) {
            rule(5, !(member instanceof BlockTree), member);
            if (member instanceof VariableTree field && !field.getModifiers().getFlags().contains(Modifier.STATIC)) {
                fields++;
            }
        }
        rule(11, fields <= MOST_FIELDS, tree);
        return super.visitClass(tree, unused);
    }

    @Override
    public Void visitMethod(MethodTree tree, Void unused) {
        methods++;
        rule(11, tree.getParameters().size() <= MOST_PARAMETERS, tree);
        rule(6, tree.getThrows().isEmpty(), tree);
        long from = trees.getSourcePositions().getStartPosition(unit, tree);
        long to = trees.getSourcePositions().getEndPosition(unit, tree);
        long lines = unit.getLineMap().getLineNumber(Math.max(from, to)) - unit.getLineMap().getLineNumber(from) + 1;
        rule(11, lines <= MOST_LINES, tree);
        if (tree.getReturnType() != null) {
            rule(3, isAllowed(trees.getTypeMirror(new TreePath(getCurrentPath(), tree.getReturnType()))), tree);
        }
        Element method = trees.getElement(getCurrentPath());
        boolean isOfTheFace = method.getModifiers().contains(Modifier.PUBLIC);
        rule(1, isOfTheFace || !isNameOfTheFace(tree.getName().toString()), tree);
        if (method.getKind() == ElementKind.CONSTRUCTOR) {
            calls.add(caller(), method.getEnclosingElement() + FIELDS);
        }
        return super.visitMethod(tree, unused);
    }

    private static boolean isNameOfTheFace(String name) {
        return FaceTest.LINES.stream().anyMatch(line -> line.contains(" " + name + "("));
    }

    @Override
    public Void visitVariable(VariableTree tree, Void unused) {
        Element variable = trees.getElement(getCurrentPath());
        rule(3, isAllowed(variable.asType()), tree);
        if (variable.getModifiers().contains(Modifier.STATIC)) {
            rule(5, variable.getModifiers().contains(Modifier.FINAL), tree);
            rule(5, CONSTANT.matcher(variable.asType().toString()).matches(), tree);
        }
        return super.visitVariable(tree, unused);
    }

    private static boolean isAllowed(TypeMirror type) {
        return TYPE.matcher(type.toString()).matches();
    }

    @Override
    public Void visitMethodInvocation(MethodInvocationTree tree, Void unused) {
        called(tree);
        return super.visitMethodInvocation(tree, unused);
    }

    @Override
    public Void visitNewClass(NewClassTree tree, Void unused) {
        rule(2, tree.getClassBody() == null, tree);
        rule(12, openLoops == 0, tree);
        called(tree);
        return super.visitNewClass(tree, unused);
    }

    @Override
    public Void visitNewArray(NewArrayTree tree, Void unused) {
        rule(12, openLoops == 0, tree);
        return super.visitNewArray(tree, unused);
    }

    private void called(Tree tree) {
        Element method = trees.getElement(getCurrentPath());
        Element owner = method.getEnclosingElement();
        boolean isOwn = owner.toString().startsWith("PageRescue");
        rule(4, isOwn || LIBRARY.contains(owner + "." + method.getSimpleName()), tree);
        if (isOwn) {
            calls.add(caller(), owner + "." + method);
            // No class can be extended, so no constructor calls a method that another class overrides.
            rule(12, owner.getModifiers().contains(Modifier.FINAL), tree);
        }
    }

    /** Fields are made by the constructor, so what they call is called by it. */
    private String caller() {
        for (TreePath path = getCurrentPath(); path != null; path = path.getParentPath()) {
            if (path.getLeaf() instanceof MethodTree) {
                Element method = trees.getElement(path);
                return method.getEnclosingElement() + "." + method;
            }
            if (path.getLeaf() instanceof ClassTree) {
                return trees.getElement(path) + FIELDS;
            }
        }
        return "";
    }

    @Override
    public Void visitIdentifier(IdentifierTree tree, Void unused) {
        Tree around = getCurrentPath().getParentPath().getLeaf();
        boolean isHandedOut = tree.getName().contentEquals("this") && around.getKind() != Tree.Kind.MEMBER_SELECT;
        rule(12, !isHandedOut, tree);
        return super.visitIdentifier(tree, unused);
    }

    @Override
    public Void visitBinary(BinaryTree tree, Void unused) {
        TypeMirror left = typeOf(tree.getLeftOperand());
        TypeMirror right = typeOf(tree.getRightOperand());
        boolean areTexts = isBoxOrText(left) || isBoxOrText(right);
        rule(tree.getKind() == Tree.Kind.PLUS ? 10 : 6, !areTexts, tree);
        if (tree.getKind() == Tree.Kind.DIVIDE || tree.getKind() == Tree.Kind.REMAINDER) {
            rule(7, isNeverZero(tree.getRightOperand()), tree);
        }
        return super.visitBinary(tree, unused);
    }

    private TypeMirror typeOf(Tree tree) {
        return trees.getTypeMirror(new TreePath(getCurrentPath(), tree));
    }

    private static boolean isBoxOrText(TypeMirror type) {
        return type.getKind() == TypeKind.DECLARED && type.toString().startsWith("java.lang.");
    }

    /** A constant, or SIZE, which the constructor clamps. */
    private boolean isNeverZero(ExpressionTree divisor) {
        Element named = trees.getElement(new TreePath(getCurrentPath(), divisor));
        return named != null && named.getKind() == ElementKind.FIELD
            && (named.getModifiers().contains(Modifier.STATIC) || named.getSimpleName().contentEquals("size"));
    }

    @Override
    public Void visitForLoop(ForLoopTree tree, Void unused) {
        boolean oneUpdate = tree.getUpdate().size() == 1;
        rule(9, oneUpdate, tree);
        if (oneUpdate) {
            ExpressionStatementTree update = tree.getUpdate().get(0);
            rule(9, hasCounter(tree.getCondition(), List.of(update)), tree);
        }
        return inLoop(() -> super.visitForLoop(tree, unused));
    }

    @Override
    public Void visitWhileLoop(WhileLoopTree tree, Void unused) {
        boolean isBlock = tree.getStatement() instanceof BlockTree;
        rule(9, isBlock && hasCounter(tree.getCondition(), ((BlockTree) tree.getStatement()).getStatements()), tree);
        return inLoop(() -> super.visitWhileLoop(tree, unused));
    }

    @Override
    public Void visitDoWhileLoop(DoWhileLoopTree tree, Void unused) {
        boolean isBlock = tree.getStatement() instanceof BlockTree;
        rule(9, isBlock && hasCounter(tree.getCondition(), ((BlockTree) tree.getStatement()).getStatements()), tree);
        return inLoop(() -> super.visitDoWhileLoop(tree, unused));
    }

    /** A list's iterator is made anew each time, so lists are gone through by index. */
    @Override
    public Void visitEnhancedForLoop(EnhancedForLoopTree tree, Void unused) {
        rule(12, typeOf(tree.getExpression()).getKind() == TypeKind.ARRAY, tree);
        return inLoop(() -> super.visitEnhancedForLoop(tree, unused));
    }

    private Void inLoop(Runnable visit) {
        loops++;
        openLoops++;
        visit.run();
        openLoops--;
        return null;
    }

    /** Whether the condition, or all parts of it that are joined by and, hold a bound of what a statement counts. */
    private static boolean hasCounter(Tree condition, List<? extends Tree> statements) {
        if (condition == null) {
            return false;
        }
        Tree inner = condition;
        while (inner instanceof ParenthesizedTree bracketed) {
            inner = bracketed.getExpression();
        }
        if (inner.getKind() == Tree.Kind.CONDITIONAL_AND) {
            BinaryTree both = (BinaryTree) inner;
            return hasCounter(both.getLeftOperand(), statements) || hasCounter(both.getRightOperand(), statements);
        }
        return BOUNDS.contains(inner.getKind()) && isCounted(((BinaryTree) inner).getLeftOperand().toString(), statements);
    }

    private static boolean isCounted(String name, List<? extends Tree> statements) {
        for (Tree statement : statements) {
            if (statement instanceof ExpressionStatementTree done && COUNTED.contains(done.getExpression().getKind())) {
                if (((UnaryTree) done.getExpression()).getExpression().toString().equals(name)) {
                    return true;
                }
            }
        }
        return false;
    }
}
