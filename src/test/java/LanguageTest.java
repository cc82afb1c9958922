import com.sun.source.tree.ArrayAccessTree;
import com.sun.source.tree.AssertTree;
import com.sun.source.tree.BinaryTree;
import com.sun.source.tree.ClassTree;
import com.sun.source.tree.CompilationUnitTree;
import com.sun.source.tree.CompoundAssignmentTree;
import com.sun.source.tree.DoWhileLoopTree;
import com.sun.source.tree.EnhancedForLoopTree;
import com.sun.source.tree.ExpressionTree;
import com.sun.source.tree.ForLoopTree;
import com.sun.source.tree.IdentifierTree;
import com.sun.source.tree.ImportTree;
import com.sun.source.tree.InstanceOfTree;
import com.sun.source.tree.LambdaExpressionTree;
import com.sun.source.tree.LiteralTree;
import com.sun.source.tree.MemberReferenceTree;
import com.sun.source.tree.MemberSelectTree;
import com.sun.source.tree.MethodInvocationTree;
import com.sun.source.tree.MethodTree;
import com.sun.source.tree.NewClassTree;
import com.sun.source.tree.SynchronizedTree;
import com.sun.source.tree.ThrowTree;
import com.sun.source.tree.Tree;
import com.sun.source.tree.TryTree;
import com.sun.source.tree.TypeCastTree;
import com.sun.source.tree.VariableTree;
import com.sun.source.tree.WhileLoopTree;
import com.sun.source.util.JavacTask;
import com.sun.source.util.SourcePositions;
import com.sun.source.util.TreePathScanner;
import com.sun.source.util.Trees;
import java.io.IOException;
import java.nio.file.Path;
import java.util.HashMap;
import java.util.List;
import java.util.Map;
import java.util.Set;
import java.util.TreeSet;
import javax.lang.model.element.Element;
import javax.lang.model.element.ElementKind;
import javax.lang.model.element.ExecutableElement;
import javax.lang.model.element.Modifier;
import javax.lang.model.element.VariableElement;
import javax.lang.model.type.ArrayType;
import javax.lang.model.type.TypeKind;
import javax.lang.model.type.TypeMirror;
import javax.tools.JavaCompiler;
import javax.tools.StandardJavaFileManager;
import javax.tools.ToolProvider;

/** The rules of ../shared/LANGUAGE.md, by their numbers, held against the class as the compiler reads it. */
public final class LanguageTest extends TreePathScanner<Void, Void> {
    private static final Check check = new Check();
    private static final Set<String> LIBRARY = Set.of("String.length", "String.charAt", "Math.max", "Math.min", "Math.abs");

    private final Trees trees;
    private final SourcePositions places;
    private final CompilationUnitTree unit;
    /** Who calls whom, own methods alone. */
    private final Map<String, Set<String>> calls = new HashMap<>();
    private String method = "";
    private int classes;

    private LanguageTest(Trees trees, CompilationUnitTree unit) {
        this.trees = trees;
        this.places = trees.getSourcePositions();
        this.unit = unit;
    }

    public static void main(String[] args) throws IOException {
        JavaCompiler compiler = ToolProvider.getSystemJavaCompiler();
        try (StandardJavaFileManager files = compiler.getStandardFileManager(null, null, null)) {
            JavacTask task = (JavacTask) compiler.getTask(null, files, null, List.of("-proc:none"), null, files.getJavaFileObjects(Path.of("src/main/java/WaterMen.java")));
            for (CompilationUnitTree unit : task.parse()) {
                task.analyze();
                LanguageTest look = new LanguageTest(Trees.instance(task), unit);
                look.scan(unit, null);
                look.finish();
            }
        }
        check.end();
    }

    private void holds(int rule, String what, Tree at, boolean is) {
        check.holds("rule " + rule + ", line " + lineOf(places.getStartPosition(unit, at)) + ": " + what, is);
    }

    private long lineOf(long place) {
        return place < 0 ? 0 : unit.getLineMap().getLineNumber(place);
    }

    private void finish() {
        check.holds("rule 11: twelve classes at most", classes <= 12);
        int deepest = 0;
        for (String each : calls.keySet()) deepest = Math.max(deepest, depth(each, 0));
        check.holds("rules 8 and 11: no recursion, and calls go eight deep at most, not " + deepest, deepest <= 8);
    }

    private int depth(String of, int above) {
        int deepest = 0;
        if (above > 20) return 1000;
        for (String called : calls.getOrDefault(of, Set.of())) deepest = Math.max(deepest, depth(called, above + 1));
        return deepest + 1;
    }

    private boolean isOwn(Element element) {
        return element.toString().startsWith("WaterMen");
    }

    private boolean isAllowed(TypeMirror type) {
        if (type.getKind().isPrimitive() || type.getKind() == TypeKind.VOID || type.getKind() == TypeKind.NONE) return true;
        if (type instanceof ArrayType array) {
            TypeMirror inner = array.getComponentType();
            if (inner instanceof ArrayType rows) return rows.getComponentType().getKind().isPrimitive() && rows.getComponentType().getKind() != TypeKind.BOOLEAN;
            return inner.getKind().isPrimitive() || inner.toString().startsWith("WaterMen");
        }
        return type.toString().startsWith("WaterMen") || type.toString().equals("java.lang.String");
    }

    @Override
    public Void visitClass(ClassTree tree, Void nothing) {
        classes++;
        Element element = trees.getElement(getCurrentPath());
        boolean outer = element.getEnclosingElement().getKind() == ElementKind.PACKAGE;
        Set<Modifier> has = element.getModifiers();
        holds(1, "public and final, or static and not open", tree, outer ? has.containsAll(Set.of(Modifier.PUBLIC, Modifier.FINAL)) : has.contains(Modifier.STATIC) && !has.contains(Modifier.PUBLIC)
            && !has.contains(Modifier.PROTECTED));
        holds(2, "no local or nameless class", tree, outer || element.getEnclosingElement().getKind().isClass());
        holds(2, "it stands on its own", tree, tree.getExtendsClause() == null && tree.getImplementsClause().isEmpty());
        long fields = element.getEnclosedElements().stream().filter(e -> e.getKind() == ElementKind.FIELD && !e.getModifiers().contains(Modifier.STATIC)).count();
        holds(11, "some twenty fields at most", tree, fields <= 20);
        return super.visitClass(tree, nothing);
    }

    @Override
    public Void visitMethod(MethodTree tree, Void nothing) {
        ExecutableElement element = (ExecutableElement) trees.getElement(getCurrentPath());
        String before = method;
        method = element.getEnclosingElement() + "." + element;
        calls.putIfAbsent(method, new TreeSet<>());
        holds(11, "seven parameters at most", tree, tree.getParameters().size() <= 7);
        long lines = lineOf(places.getEndPosition(unit, tree)) - lineOf(places.getStartPosition(unit, tree)) + 1;
        holds(11, "some sixty lines at most", tree, lines <= 60);
        holds(3, "a type that may be answered", tree, isAllowed(element.getReturnType()));
        super.visitMethod(tree, nothing);
        method = before;
        return null;
    }

    @Override
    public Void visitVariable(VariableTree tree, Void nothing) {
        VariableElement element = (VariableElement) trees.getElement(getCurrentPath());
        holds(3, "a type that may be used: " + element.asType(), tree, isAllowed(element.asType()));
        if (element.getModifiers().contains(Modifier.STATIC)) {
            holds(5, "a constant", tree, element.getModifiers().contains(Modifier.FINAL) && element.getConstantValue() != null);
        }
        boolean mayBeNull = element.getKind() == ElementKind.LOCAL_VARIABLE && !element.asType().getKind().isPrimitive()
            && !(tree.getInitializer() instanceof NewClassTree);
        if (mayBeNull) nullIsLookedAtFirst(element, tree);
        return super.visitVariable(tree, nothing);
    }

    /** What came out of an array, a field or a call is held against null ahead of its first use. */
    private void nullIsLookedAtFirst(VariableElement what, VariableTree tree) {
        long[] first = {Long.MAX_VALUE, Long.MAX_VALUE};
        new TreePathScanner<Void, Void>() {
            @Override
            public Void visitIdentifier(IdentifierTree use, Void nothing) {
                if (what.equals(trees.getElement(getCurrentPath()))) {
                    Tree above = getCurrentPath().getParentPath().getLeaf();
                    int sort = isNullTest(above) ? 0 : 1;
                    first[sort] = Math.min(first[sort], places.getStartPosition(unit, use));
                }
                return null;
            }
        }.scan(getCurrentPath().getParentPath(), null);
        holds(7, what + " is held against null before it is used", tree, first[0] < first[1]);
    }

    private static boolean isNullTest(Tree tree) {
        return tree instanceof BinaryTree b && (b.getKind() == Tree.Kind.EQUAL_TO || b.getKind() == Tree.Kind.NOT_EQUAL_TO)
            && b.getRightOperand().getKind() == Tree.Kind.NULL_LITERAL;
    }

    @Override
    public Void visitMemberSelect(MemberSelectTree tree, Void nothing) {
        holds(7, "nothing is used right out of an array: " + tree, tree, !(tree.getExpression() instanceof ArrayAccessTree));
        return super.visitMemberSelect(tree, nothing);
    }

    @Override
    public Void visitMethodInvocation(MethodInvocationTree tree, Void nothing) {
        ExecutableElement called = (ExecutableElement) trees.getElement(getCurrentPath());
        Element owner = called.getEnclosingElement();
        if (isOwn(owner)) calls.computeIfAbsent(method, m -> new TreeSet<>()).add(owner + "." + called);
        else if (!called.getSimpleName().contentEquals("<init>")) holds(4, "the library has " + called, tree, LIBRARY.contains(owner.getSimpleName() + "." + called.getSimpleName()));
        return super.visitMethodInvocation(tree, nothing);
    }

    @Override
    public Void visitNewClass(NewClassTree tree, Void nothing) {
        Element made = trees.getElement(getCurrentPath());
        holds(4, "it makes its own objects alone", tree, isOwn(made.getEnclosingElement()) && tree.getClassBody() == null);
        calls.computeIfAbsent(method, m -> new TreeSet<>()).add(made.getEnclosingElement() + "." + made);
        return super.visitNewClass(tree, nothing);
    }

    @Override
    public Void visitBinary(BinaryTree tree, Void nothing) {
        boolean text = isText(tree.getLeftOperand()) || isText(tree.getRightOperand());
        switch (tree.getKind()) {
            case DIVIDE: case REMAINDER: divisor(tree, tree.getRightOperand()); break;
            case PLUS: holds(10, "no texts joined by +", tree, !text); break;
            case EQUAL_TO: case NOT_EQUAL_TO: holds(6, "no texts compared by ==", tree, !text); break;
            default: break;
        }
        return super.visitBinary(tree, nothing);
    }

    private boolean isText(ExpressionTree tree) {
        TypeMirror type = trees.getTypeMirror(new com.sun.source.util.TreePath(getCurrentPath(), tree));
        return type != null && type.toString().equals("java.lang.String");
    }

    /** A number that is written out, or one that its own method has looked at. */
    private void divisor(Tree at, ExpressionTree by) {
        Element element = trees.getElement(new com.sun.source.util.TreePath(getCurrentPath(), by));
        boolean constant = element instanceof VariableElement v && v.getConstantValue() instanceof Integer n && n != 0;
        boolean literal = by instanceof LiteralTree l && l.getValue() instanceof Integer n && n != 0;
        boolean looked = by.toString().equals("sharers");
        holds(7, "a divisor that can't be 0: " + by, at, constant || literal || looked);
    }

    @Override
    public Void visitCompoundAssignment(CompoundAssignmentTree tree, Void nothing) {
        holds(7, "no division in passing", tree, tree.getKind() != Tree.Kind.DIVIDE_ASSIGNMENT && tree.getKind() != Tree.Kind.REMAINDER_ASSIGNMENT);
        return super.visitCompoundAssignment(tree, nothing);
    }

    @Override
    public Void visitForLoop(ForLoopTree tree, Void nothing) {
        holds(9, "a counter against a bound", tree, tree.getCondition() instanceof BinaryTree && tree.getInitializer().size() == 1 && tree.getUpdate().size() == 1);
        return super.visitForLoop(tree, nothing);
    }

    @Override
    public Void visitWhileLoop(WhileLoopTree tree, Void nothing) {
        holds(9, "a place against a length", tree, tree.getCondition().toString().contains(" < length && "));
        return super.visitWhileLoop(tree, nothing);
    }

    @Override
    public Void visitTypeCast(TypeCastTree tree, Void nothing) {
        holds(6, "casts among numbers alone", tree, trees.getTypeMirror(getCurrentPath()).getKind().isPrimitive());
        return super.visitTypeCast(tree, nothing);
    }

    @Override
    public Void visitDoWhileLoop(DoWhileLoopTree tree, Void nothing) {
        return no(9, tree);
    }

    @Override
    public Void visitEnhancedForLoop(EnhancedForLoopTree tree, Void nothing) {
        return no(9, tree);
    }

    @Override
    public Void visitImport(ImportTree tree, Void nothing) {
        return no(4, tree);
    }

    @Override
    public Void visitLambdaExpression(LambdaExpressionTree tree, Void nothing) {
        return no(2, tree);
    }

    @Override
    public Void visitMemberReference(MemberReferenceTree tree, Void nothing) {
        return no(2, tree);
    }

    @Override
    public Void visitThrow(ThrowTree tree, Void nothing) {
        return no(6, tree);
    }

    @Override
    public Void visitTry(TryTree tree, Void nothing) {
        return no(6, tree);
    }

    @Override
    public Void visitSynchronized(SynchronizedTree tree, Void nothing) {
        return no(6, tree);
    }

    @Override
    public Void visitAssert(AssertTree tree, Void nothing) {
        return no(6, tree);
    }

    @Override
    public Void visitInstanceOf(InstanceOfTree tree, Void nothing) {
        return no(6, tree);
    }

    private Void no(int rule, Tree tree) {
        holds(rule, "the class does without: " + tree.getKind(), tree, false);
        return null;
    }
}
