import com.sun.source.tree.AssertTree;
import com.sun.source.tree.BinaryTree;
import com.sun.source.tree.BlockTree;
import com.sun.source.tree.ClassTree;
import com.sun.source.tree.CompilationUnitTree;
import com.sun.source.tree.DoWhileLoopTree;
import com.sun.source.tree.EnhancedForLoopTree;
import com.sun.source.tree.ForLoopTree;
import com.sun.source.tree.ImportTree;
import com.sun.source.tree.LambdaExpressionTree;
import com.sun.source.tree.LiteralTree;
import com.sun.source.tree.MemberReferenceTree;
import com.sun.source.tree.MethodInvocationTree;
import com.sun.source.tree.MethodTree;
import com.sun.source.tree.NewArrayTree;
import com.sun.source.tree.NewClassTree;
import com.sun.source.tree.SynchronizedTree;
import com.sun.source.tree.ThrowTree;
import com.sun.source.tree.Tree;
import com.sun.source.tree.TryTree;
import com.sun.source.tree.TypeCastTree;
import com.sun.source.tree.VariableTree;
import com.sun.source.util.JavacTask;
import com.sun.source.util.TreePath;
import com.sun.source.util.TreePathScanner;
import com.sun.source.util.Trees;
import java.io.IOException;
import java.nio.file.Path;
import java.util.ArrayList;
import java.util.HashMap;
import java.util.HashSet;
import java.util.LinkedHashSet;
import java.util.List;
import java.util.Map;
import java.util.Set;
import javax.lang.model.element.Element;
import javax.lang.model.element.ElementKind;
import javax.lang.model.element.ExecutableElement;
import javax.lang.model.element.Modifier;
import javax.lang.model.element.VariableElement;
import javax.tools.JavaCompiler;
import javax.tools.StandardJavaFileManager;
import javax.tools.ToolProvider;

/**
 * What of LANGUAGE.md can be seen in the source. It asks for no more than the class uses now (no try, no lists, no texts):
 * whoever needs more of what LANGUAGE.md allows widens this test by the rule that allows it.
 */
public final class RulesTest extends TreePathScanner<Void, Void> {
    private static final Path SOURCE = Path.of("src/main/java/BorrowedLuck.java");
    private static final Set<String> THROWN = Set.of("IllegalStateException", "IllegalArgumentException", "IndexOutOfBoundsException",
            "ArithmeticException", "UnsupportedOperationException", "NoSuchElementException", "RuntimeException");
    private static final Set<String> LIBRARY = Set.of("java.lang.Math.min", "java.lang.Math.max", "java.lang.Math.abs",
            "java.lang.Math.floorDiv", "java.lang.Math.floorMod", "java.lang.Integer.bitCount", "java.lang.System.arraycopy");
    private static final int METHOD_LINES = 60;
    private static final int PARAMETERS = 7;
    private static final int CLASSES = 12;
    private static final int FIELDS = 20;
    private static final int DEEP = 8;

    private final Trees trees;
    private final CompilationUnitTree unit;
    private final Map<Element, Set<Element>> calls = new HashMap<>();
    private final List<ExecutableElement> methods = new ArrayList<>();
    private int classes;

    private RulesTest(Trees trees, CompilationUnitTree unit) {
        this.trees = trees;
        this.unit = unit;
    }

    public static void main(String[] args) throws IOException {
        JavaCompiler compiler = ToolProvider.getSystemJavaCompiler();
        try (StandardJavaFileManager files = compiler.getStandardFileManager(null, null, null)) {
            JavacTask task = (JavacTask) compiler.getTask(null, files, null, List.of("--release", "17", "-proc:none"), null,
                    files.getJavaFileObjects(SOURCE));
            CompilationUnitTree unit = task.parse().iterator().next();
            task.analyze();
            RulesTest rules = new RulesTest(Trees.instance(task), unit);
            rules.scan(new TreePath(unit), null);
            rules.depthOfCalls();
        }
        Check.end();
    }

    private void holds(String rule, Tree at, boolean right) {
        Check.says(rule);
        long line = unit.getLineMap().getLineNumber(trees.getSourcePositions().getStartPosition(unit, at));
        Check.due("line " + line, right, true);
    }

    private Element here() {
        return trees.getElement(getCurrentPath());
    }

    /** The method that a tree stands in; null in a field's initialiser. */
    private ExecutableElement method() {
        for (TreePath path = getCurrentPath(); path != null; path = path.getParentPath()) {
            if (path.getLeaf() instanceof MethodTree) {
                return (ExecutableElement) trees.getElement(path);
            }
        }
        return null;
    }

    private boolean isMade() {
        ExecutableElement in = method();
        return in == null || in.getKind() == ElementKind.CONSTRUCTOR;
    }

    private boolean isThrown() {
        return getCurrentPath().getParentPath().getLeaf() instanceof ThrowTree;
    }

    // Files and classes

    @Override
    public Void visitCompilationUnit(CompilationUnitTree node, Void p) {
        holds("one file, without a package line", node, node.getPackage() == null && node.getTypeDecls().size() == 1);
        super.visitCompilationUnit(node, p);
        holds("11: at most some twelve classes", node, classes <= CLASSES);
        return null;
    }

    @Override
    public Void visitImport(ImportTree node, Void p) {
        holds("4: only what stands here", node, node.getQualifiedIdentifier().toString().equals("java.util.NoSuchElementException"));
        return null;
    }

    @Override
    public Void visitClass(ClassTree node, Void p) {
        classes++;
        Element type = here();
        boolean outer = type.getEnclosingElement().getKind() == ElementKind.PACKAGE;
        boolean inside = type.getEnclosingElement().getKind() == ElementKind.CLASS;
        Set<Modifier> modifiers = type.getModifiers();
        boolean hidden = !modifiers.contains(Modifier.PUBLIC) && !modifiers.contains(Modifier.PROTECTED);
        holds("1: classes inside are private or package-visible and static", node,
                outer || inside && hidden && modifiers.contains(Modifier.STATIC));
        int fields = 0;
        for (Tree member : node.getMembers()) {
            boolean field = member instanceof VariableTree v && !v.getModifiers().getFlags().contains(Modifier.STATIC);
            fields += field ? 1 : 0;
            holds("5: no static initialiser block", member, !(member instanceof BlockTree));
        }
        holds("11: a class some twenty fields beside its constants", node, fields <= FIELDS);
        return super.visitClass(node, p);
    }

    @Override
    public Void visitVariable(VariableTree node, Void p) {
        Element variable = here();
        if (variable.getKind() == ElementKind.FIELD && variable.getModifiers().contains(Modifier.STATIC)) {
            holds("5: static fields are final constants", node, variable.getModifiers().contains(Modifier.FINAL)
                    && ((VariableElement) variable).getConstantValue() != null);
        }
        String type = variable.asType().toString();
        holds("3: types", node, type.matches("(int|boolean|char|int\\[\\]|BorrowedLuck(\\.\\w+(\\[\\])?)?)"));
        return super.visitVariable(node, p);
    }

    @Override
    public Void visitMethod(MethodTree node, Void p) {
        ExecutableElement method = (ExecutableElement) here();
        methods.add(method);
        holds("11: at most seven parameters", node, node.getParameters().size() <= PARAMETERS);
        holds("4: no generic of the library", node, node.getTypeParameters().isEmpty());
        long from = trees.getSourcePositions().getStartPosition(unit, node);
        long to = trees.getSourcePositions().getEndPosition(unit, node);
        if (to >= 0) {
            long lines = unit.getLineMap().getLineNumber(to) - unit.getLineMap().getLineNumber(from) + 1;
            holds("11: methods stay short (some sixty lines)", node, lines <= METHOD_LINES);
        }
        return super.visitMethod(node, p);
    }

    // What is called, made and thrown

    @Override
    public Void visitMethodInvocation(MethodInvocationTree node, Void p) {
        ExecutableElement called = (ExecutableElement) here();
        String owner = called.getEnclosingElement().toString();
        boolean own = owner.startsWith("BorrowedLuck");
        boolean above = called.getKind() == ElementKind.CONSTRUCTOR && owner.equals("java.lang.Object");
        holds("4: the library: only what stands here, not " + owner + "." + called.getSimpleName(), node,
                own || above || LIBRARY.contains(owner + "." + called.getSimpleName()));
        ExecutableElement in = method();
        if (own && in != null) {
            calls.computeIfAbsent(in, k -> new LinkedHashSet<>()).add(called);
        }
        return super.visitMethodInvocation(node, p);
    }

    @Override
    public Void visitNewClass(NewClassTree node, Void p) {
        boolean own = here().getEnclosingElement().toString().startsWith("BorrowedLuck");
        holds("12: made in constructors, but for what is thrown", node, own && isMade() || isThrown());
        holds("2: no class without a name", node, node.getClassBody() == null);
        return super.visitNewClass(node, p);
    }

    @Override
    public Void visitNewArray(NewArrayTree node, Void p) {
        holds("12: rows are made in constructors", node, isMade());
        return super.visitNewArray(node, p);
    }

    @Override
    public Void visitThrow(ThrowTree node, Void p) {
        boolean plain = node.getExpression() instanceof NewClassTree made && THROWN.contains(made.getIdentifier().toString())
                && (made.getArguments().isEmpty()
                || made.getArguments().size() == 1 && made.getArguments().get(0) instanceof LiteralTree);
        holds("6: throw new E() or throw new E(\"a written text\")", node, plain);
        holds("6: no throw in a constructor", node, !isMade());
        return super.visitThrow(node, p);
    }

    @Override
    public Void visitTry(TryTree node, Void p) {
        holds("6: the class has no try", node, false);
        return null;
    }

    @Override
    public Void visitTypeCast(TypeCastTree node, Void p) {
        holds("6: the class has no cast", node, false);
        return null;
    }

    @Override
    public Void visitSynchronized(SynchronizedTree node, Void p) {
        holds("6: no synchronized", node, false);
        return null;
    }

    @Override
    public Void visitAssert(AssertTree node, Void p) {
        holds("6: no assert", node, false);
        return null;
    }

    @Override
    public Void visitLambdaExpression(LambdaExpressionTree node, Void p) {
        holds("2: no lambda", node, false);
        return null;
    }

    @Override
    public Void visitMemberReference(MemberReferenceTree node, Void p) {
        holds("2: no method reference", node, false);
        return null;
    }

    // Loops, divisors and texts

    @Override
    public Void visitForLoop(ForLoopTree node, Void p) {
        holds("9: every loop has an end that can be seen", node, node.getCondition() != null && node.getUpdate().size() == 1);
        return super.visitForLoop(node, p);
    }

    @Override
    public Void visitEnhancedForLoop(EnhancedForLoopTree node, Void p) {
        holds("9: the class has no for over a row", node, false);
        return null;
    }

    @Override
    public Void visitDoWhileLoop(DoWhileLoopTree node, Void p) {
        holds("9: the class has no do", node, false);
        return null;
    }

    @Override
    public Void visitBinary(BinaryTree node, Void p) {
        if (node.getKind() == Tree.Kind.PLUS) {
            String type = trees.getTypeMirror(getCurrentPath()).toString();
            holds("10: joining texts by StringBuilder (not by +)", node, type.equals("int"));
        }
        if (node.getKind() == Tree.Kind.DIVIDE || node.getKind() == Tree.Kind.REMAINDER) {
            String divisor = node.getRightOperand().toString();
            holds("7: a divisor is written, or one of those that are looked at first: " + divisor, node,
                    divisor.matches("[1-9]\\d*|[A-Z_]+|all|c\\.women|c\\.things"));
        }
        return super.visitBinary(node, p);
    }

    // How deep calls go

    private void depthOfCalls() {
        for (ExecutableElement method : methods) {
            boolean isAbstract = method.getModifiers().contains(Modifier.ABSTRACT);
            for (ExecutableElement other : methods) {
                // A call of an abstract method is one of each method of its name, in place of which it stands.
                if (isAbstract && other != method && other.getSimpleName().equals(method.getSimpleName())) {
                    for (Set<Element> called : calls.values()) {
                        if (called.contains(method)) {
                            called.add(other);
                        }
                    }
                }
            }
        }
        Check.says("11: calls that are no recursion go at most eight deep");
        for (ExecutableElement method : methods) {
            int deep = deep(method, new HashSet<>());
            Check.due(method + " goes " + deep + " deep, which is few enough", deep <= DEEP, true);
        }
    }

    private int deep(Element method, Set<Element> open) {
        int most = 0;
        open.add(method);
        for (Element called : calls.getOrDefault(method, Set.of())) {
            if (!open.contains(called)) {
                most = Math.max(most, deep(called, open));
            }
        }
        open.remove(method);
        return 1 + most;
    }
}
