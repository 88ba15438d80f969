import com.sun.source.tree.AssertTree;
import com.sun.source.tree.BinaryTree;
import com.sun.source.tree.BlockTree;
import com.sun.source.tree.ClassTree;
import com.sun.source.tree.CompilationUnitTree;
import com.sun.source.tree.CompoundAssignmentTree;
import com.sun.source.tree.DoWhileLoopTree;
import com.sun.source.tree.EnhancedForLoopTree;
import com.sun.source.tree.ExpressionTree;
import com.sun.source.tree.ForLoopTree;
import com.sun.source.tree.ImportTree;
import com.sun.source.tree.LambdaExpressionTree;
import com.sun.source.tree.MemberReferenceTree;
import com.sun.source.tree.MethodInvocationTree;
import com.sun.source.tree.MethodTree;
import com.sun.source.tree.NewArrayTree;
import com.sun.source.tree.NewClassTree;
import com.sun.source.tree.SynchronizedTree;
import com.sun.source.tree.ThrowTree;
import com.sun.source.tree.Tree;
import com.sun.source.tree.TryTree;
import com.sun.source.tree.TypeCastTree;
import com.sun.source.tree.VariableTree;
import com.sun.source.tree.WhileLoopTree;
import com.sun.source.util.JavacTask;
import com.sun.source.util.SourcePositions;
import com.sun.source.util.TreePath;
import com.sun.source.util.TreePathScanner;
import com.sun.source.util.Trees;
import java.io.IOException;
import java.nio.file.Path;
import java.util.ArrayList;
import java.util.List;
import java.util.Map;
import java.util.Set;
import java.util.TreeMap;
import java.util.TreeSet;
import javax.lang.model.element.Element;
import javax.lang.model.element.Modifier;
import javax.lang.model.type.TypeKind;
import javax.lang.model.type.TypeMirror;
import javax.tools.JavaCompiler;
import javax.tools.StandardJavaFileManager;
import javax.tools.ToolProvider;

/**
 * The rules of LANGUAGE.md that can be told from the program's tree. It is stricter than they are where the class
 * needs less: no import, no try, no cast among classes, nothing of the library but three functions.
 */
public final class LanguageTest extends TreePathScanner<Void, Void> {
    private static final Trial T = new Trial();
    private static final String SOURCE = "src/main/java/SpineTables.java";
    private static final Set<String> LIBRARY = Set.of("java.lang.Math.max", "java.lang.Math.min", "java.lang.Long.compare");
    private static final Set<String> THROWN = Set.of("IllegalStateException", "IllegalArgumentException", "IndexOutOfBoundsException");
    private static final int MOST_PARAMETERS = 7, MOST_LINES = 60, MOST_DEEP = 8, MOST_CLASSES = 12, MOST_FIELDS = 20;

    private final Trees trees;
    private final CompilationUnitTree unit;
    /** Each method with those that it calls. */
    private final Map<String, Set<String>> calls = new TreeMap<>();
    private String method = "";
    private int classes = 0;

    private LanguageTest(Trees trees, CompilationUnitTree unit) {
        this.trees = trees;
        this.unit = unit;
    }

    private void rule(int number, String what, Tree tree, boolean holds) {
        T.due("rule " + number + ", line " + lineOf(startOf(tree)) + ": " + what, holds, true);
    }

    private long startOf(Tree tree) {
        return trees.getSourcePositions().getStartPosition(unit, tree);
    }

    private long lineOf(long position) {
        return position < 0 ? 0 : unit.getLineMap().getLineNumber(position);
    }

    private boolean isInside(Class<?>... sorts) {
        for (TreePath path = getCurrentPath().getParentPath(); path != null; path = path.getParentPath()) {
            if (path.getLeaf() instanceof MethodTree) {
                return false;
            }
            for (Class<?> sort : sorts) {
                if (sort.isInstance(path.getLeaf())) {
                    return true;
                }
            }
        }
        return false;
    }

    private boolean isInLoop() {
        return isInside(ForLoopTree.class, EnhancedForLoopTree.class, WhileLoopTree.class, DoWhileLoopTree.class);
    }

    private boolean isText(Tree tree) {
        TypeMirror type = trees.getTypeMirror(new TreePath(getCurrentPath(), tree));
        return type != null && type.toString().equals("java.lang.String");
    }

    @Override
    public Void visitImport(ImportTree tree, Void none) {
        rule(4, "nothing is imported", tree, false);
        return super.visitImport(tree, none);
    }

    @Override
    public Void visitClass(ClassTree tree, Void none) {
        classes++;
        Set<Modifier> flags = tree.getModifiers().getFlags();
        Tree outside = getCurrentPath().getParentPath().getLeaf();
        boolean isFace = outside == unit;
        rule(1, "one class, and others inside it that are static", tree,
                isFace ? flags.contains(Modifier.PUBLIC) : flags.contains(Modifier.STATIC) && flags.contains(Modifier.PRIVATE));
        rule(2, "no class inside a method", tree, isFace || outside instanceof ClassTree);
        int fields = 0;
        for (Tree member : tree.getMembers()) {
            boolean isBlock = member instanceof BlockTree;
            rule(5, "no block that belongs to no method", member, !isBlock);
            boolean isStatic = member instanceof VariableTree variable && variable.getModifiers().getFlags().contains(Modifier.STATIC);
            fields += member instanceof VariableTree && !isStatic ? 1 : 0;
        }
        rule(11, "fields of a class", tree, fields <= MOST_FIELDS);
        return super.visitClass(tree, none);
    }

    @Override
    public Void visitVariable(VariableTree tree, Void none) {
        Set<Modifier> flags = tree.getModifiers().getFlags();
        TypeMirror type = trees.getTypeMirror(getCurrentPath());
        if (flags.contains(Modifier.STATIC)) {
            rule(5, "static fields are final", tree, flags.contains(Modifier.FINAL));
            rule(5, "static fields are numbers, or arrays written out", tree,
                    type.getKind() == TypeKind.INT || tree.getInitializer() instanceof NewArrayTree array && array.getInitializers() != null);
        }
        rule(3, "arrays of one dimension", tree, !type.toString().endsWith("[][]"));
        rule(3, "no text is held", tree, !type.toString().equals("java.lang.String"));
        return super.visitVariable(tree, none);
    }

    @Override
    public Void visitMethod(MethodTree tree, Void none) {
        Element element = trees.getElement(getCurrentPath());
        method = nameOf(element);
        calls.putIfAbsent(method, new TreeSet<>());
        SourcePositions positions = trees.getSourcePositions();
        long lines = lineOf(positions.getEndPosition(unit, tree)) - lineOf(startOf(tree)) + 1;
        rule(11, method + " has " + lines + " lines", tree, lines <= MOST_LINES);
        rule(11, method + " takes parameters", tree, tree.getParameters().size() <= MOST_PARAMETERS);
        return super.visitMethod(tree, none);
    }

    private static String nameOf(Element element) {
        return element.getEnclosingElement() + "." + element.getSimpleName();
    }

    @Override
    public Void visitMethodInvocation(MethodInvocationTree tree, Void none) {
        Element element = trees.getElement(getCurrentPath());
        String name = nameOf(element);
        boolean isSuper = name.equals("java.lang.Object.<init>");
        boolean isOwn = name.startsWith("SpineTables.");
        rule(4, name + " may be called", tree, isOwn || isSuper || LIBRARY.contains(name));
        if (!isSuper) {
            calls.computeIfAbsent(method, key -> new TreeSet<>()).add(name);
        }
        return super.visitMethodInvocation(tree, none);
    }

    @Override
    public Void visitNewClass(NewClassTree tree, Void none) {
        String name = tree.getIdentifier().toString();
        boolean isThrown = getCurrentPath().getParentPath().getLeaf() instanceof ThrowTree;
        boolean isOwn = nameOf(trees.getElement(getCurrentPath())).startsWith("SpineTables.");
        rule(4, "new " + name, tree, isOwn || isThrown && THROWN.contains(name));
        rule(12, "no object is made in a loop", tree, !isInLoop());
        rule(2, "no class without a name", tree, tree.getClassBody() == null);
        return super.visitNewClass(tree, none);
    }

    @Override
    public Void visitNewArray(NewArrayTree tree, Void none) {
        rule(12, "no array is made but with its object", tree, getCurrentPath().getParentPath().getLeaf() instanceof VariableTree
                && getCurrentPath().getParentPath().getParentPath().getLeaf() instanceof ClassTree);
        return super.visitNewArray(tree, none);
    }

    @Override
    public Void visitThrow(ThrowTree tree, Void none) {
        boolean isWritten = tree.getExpression() instanceof NewClassTree made && made.getArguments().size() == 1
                && made.getArguments().get(0).getKind() == Tree.Kind.STRING_LITERAL;
        rule(6, "what is thrown is new, with a written text", tree, isWritten);
        rule(6, "no throw in a constructor", tree, !method.endsWith("<init>"));
        return super.visitThrow(tree, none);
    }

    @Override
    public Void visitTry(TryTree tree, Void none) {
        rule(6, "nothing is caught", tree, false);
        return super.visitTry(tree, none);
    }

    @Override
    public Void visitTypeCast(TypeCastTree tree, Void none) {
        rule(6, "casts are of numbers", tree, trees.getTypeMirror(getCurrentPath()).getKind().isPrimitive());
        return super.visitTypeCast(tree, none);
    }

    @Override
    public Void visitLambdaExpression(LambdaExpressionTree tree, Void none) {
        rule(2, "no lambda", tree, false);
        return super.visitLambdaExpression(tree, none);
    }

    @Override
    public Void visitMemberReference(MemberReferenceTree tree, Void none) {
        rule(2, "no method reference", tree, false);
        return super.visitMemberReference(tree, none);
    }

    @Override
    public Void visitSynchronized(SynchronizedTree tree, Void none) {
        rule(6, "no synchronized", tree, false);
        return super.visitSynchronized(tree, none);
    }

    @Override
    public Void visitAssert(AssertTree tree, Void none) {
        rule(6, "no assert", tree, false);
        return super.visitAssert(tree, none);
    }

    @Override
    public Void visitBinary(BinaryTree tree, Void none) {
        rule(10, "texts are not joined by +", tree, !isText(tree.getLeftOperand()) && !isText(tree.getRightOperand()));
        return super.visitBinary(tree, none);
    }

    @Override
    public Void visitCompoundAssignment(CompoundAssignmentTree tree, Void none) {
        rule(10, "texts are not joined by +=", tree, !isText(tree.getVariable()));
        return super.visitCompoundAssignment(tree, none);
    }

    /** A counter, or a place that is counted up, against a bound. */
    private void loop(Tree tree, ExpressionTree condition) {
        String text = condition == null ? "" : condition.toString();
        rule(9, "a loop shows its bound: " + text, tree, text.matches("(?s).*[a-zA-Z] (<|<=|>|>=) .*"));
    }

    @Override
    public Void visitForLoop(ForLoopTree tree, Void none) {
        loop(tree, tree.getCondition());
        return super.visitForLoop(tree, none);
    }

    @Override
    public Void visitWhileLoop(WhileLoopTree tree, Void none) {
        loop(tree, tree.getCondition());
        return super.visitWhileLoop(tree, none);
    }

    @Override
    public Void visitDoWhileLoop(DoWhileLoopTree tree, Void none) {
        loop(tree, tree.getCondition());
        return super.visitDoWhileLoop(tree, none);
    }

    /** The longest chain of calls that begins with one; those open already may not come again. */
    private List<String> deepest(String name, List<String> open) {
        List<String> chain = new ArrayList<>(open);
        chain.add(name);
        if (open.contains(name)) {
            T.due("rule 8: recursion " + chain, true, false);
            return chain;
        }
        List<String> longest = chain;
        for (String called : calls.getOrDefault(name, Set.of())) {
            List<String> found = deepest(called, chain);
            longest = found.size() > longest.size() ? found : longest;
        }
        return longest;
    }

    private void whole() {
        T.due("rule 11: classes are few", classes >= 1 && classes <= MOST_CLASSES, true);
        for (String name : calls.keySet()) {
            List<String> chain = deepest(name, List.of());
            T.due("rule 11: calls go not too deep: " + chain, chain.size() <= MOST_DEEP, true);
        }
        T.due("methods were found", calls.size() > 20, true);
    }

    public static void main(String[] args) throws IOException {
        JavaCompiler compiler = ToolProvider.getSystemJavaCompiler();
        try (StandardJavaFileManager files = compiler.getStandardFileManager(null, null, null)) {
            Path path = Path.of(args.length > 0 ? args[0] : SOURCE);
            JavacTask task = (JavacTask) compiler.getTask(null, files, null, List.of("-proc:none"), null, files.getJavaFileObjects(path));
            CompilationUnitTree unit = task.parse().iterator().next();
            task.analyze();
            T.due("rule 1: one class in the file, without a package", unit.getTypeDecls().size() == 1 && unit.getPackage() == null, true);
            LanguageTest test = new LanguageTest(Trees.instance(task), unit);
            test.scan(unit, null);
            test.whole();
        }
        T.end("LanguageTest");
    }
}
