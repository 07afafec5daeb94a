import com.sun.source.tree.AssignmentTree;
import com.sun.source.tree.BinaryTree;
import com.sun.source.tree.ClassTree;
import com.sun.source.tree.CompoundAssignmentTree;
import com.sun.source.tree.ConditionalExpressionTree;
import com.sun.source.tree.DoWhileLoopTree;
import com.sun.source.tree.ExpressionTree;
import com.sun.source.tree.ForLoopTree;
import com.sun.source.tree.ImportTree;
import com.sun.source.tree.LiteralTree;
import com.sun.source.tree.MethodInvocationTree;
import com.sun.source.tree.MethodTree;
import com.sun.source.tree.NewArrayTree;
import com.sun.source.tree.NewClassTree;
import com.sun.source.tree.ParenthesizedTree;
import com.sun.source.tree.Tree;
import com.sun.source.tree.TypeCastTree;
import com.sun.source.tree.UnaryTree;
import com.sun.source.tree.VariableTree;
import com.sun.source.tree.WhileLoopTree;
import com.sun.source.tree.ArrayAccessTree;
import com.sun.source.util.TreePath;
import com.sun.source.util.TreePathScanner;
import java.util.EnumSet;
import java.util.Set;
import javax.lang.model.element.Element;
import javax.lang.model.element.ElementKind;
import javax.lang.model.element.ExecutableElement;
import javax.lang.model.element.Modifier;
import javax.lang.model.element.TypeElement;
import javax.lang.model.element.VariableElement;
import javax.lang.model.type.ArrayType;
import javax.lang.model.type.TypeKind;
import javax.lang.model.type.TypeMirror;

/** The rules of ../shared/LANGUAGE.md that can be looked up in the source, each row by its rule's number. */
public final class LanguageTest extends TreePathScanner<Void, Void> {

    private static final Set<Tree.Kind> RULED_OUT = EnumSet.of(
        Tree.Kind.THROW, Tree.Kind.TRY, Tree.Kind.CATCH, Tree.Kind.SYNCHRONIZED, Tree.Kind.ASSERT,
        Tree.Kind.LAMBDA_EXPRESSION, Tree.Kind.MEMBER_REFERENCE, Tree.Kind.DOUBLE_LITERAL,
        Tree.Kind.FLOAT_LITERAL, Tree.Kind.PACKAGE);
    private static final Set<String> IMPORTS = Set.of(
        "java.util.ArrayList", "java.util.Arrays", "java.util.Iterator", "java.util.List");
    private static final Set<String> LIBRARY = Set.of(
        "java.lang.String.length", "java.lang.String.charAt", "java.lang.String.isEmpty", "java.lang.String.equals",
        "java.lang.String.indexOf", "java.lang.String.substring", "java.lang.String.toCharArray",
        "java.lang.Math.max", "java.lang.Math.min", "java.lang.Math.abs", "java.lang.Math.floorDiv",
        "java.lang.Math.floorMod", "java.lang.Integer.compare", "java.lang.Integer.bitCount",
        "java.lang.System.arraycopy", "java.util.Arrays.fill", "java.util.Arrays.copyOf", "java.util.Arrays.copyOfRange");
    private static final Set<TypeKind> CONSTANTS = EnumSet.of(TypeKind.INT, TypeKind.LONG, TypeKind.BOOLEAN, TypeKind.CHAR);
    private static final Set<TypeKind> CONSTANT_ROWS = EnumSet.of(TypeKind.INT, TypeKind.LONG, TypeKind.CHAR, TypeKind.BYTE);
    private static final Set<String> DEPTHS = Set.of("depth", "open");
    private static final int MOST_PARAMETERS = 7;
    private static final int MOST_LINES = 60;
    private static final int MOST_DEEP = 8;
    private static final int MOST_CLASSES = 12;
    private static final int MOST_FIELDS = 20;

    private final Dues dues = new Dues();
    private final Source source;
    private final Calls calls = new Calls();
    private int classes = 0;

    private LanguageTest(Source source) {
        this.source = source;
    }

    public static void main(String[] args) throws Exception {
        LanguageTest test = new LanguageTest(new Source("src/main/java/RopesAtDawn.java"));
        test.scan(test.source.unit(), null);
        test.lookAtCalls();
        test.dues.due("11: at most some twelve classes, " + test.classes, test.classes <= MOST_CLASSES, true);
        test.dues.end("LanguageTest");
    }

    private void rule(int number, String words, Tree at, boolean holds) {
        dues.due("rule " + number + ", line " + source.lineOf(at) + ": " + words, holds, true);
    }

    private boolean isOwn(Element e) {
        Element at = e;
        while (at != null && at.getKind() != ElementKind.PACKAGE) {
            if (at.getSimpleName().contentEquals("RopesAtDawn")) {
                return true;
            }
            at = at.getEnclosingElement();
        }
        return false;
    }

    @Override
    public Void scan(Tree t, Void v) {
        if (t != null) {
            rule(6, "no " + t.getKind(), t, !RULED_OUT.contains(t.getKind()));
        }
        return super.scan(t, v);
    }

    @Override
    public Void visitImport(ImportTree t, Void v) {
        String name = t.getQualifiedIdentifier().toString();
        rule(4, "no import of " + name, t, !t.isStatic() && IMPORTS.contains(name));
        return super.visitImport(t, v);
    }

    // ---- classes, fields, methods

    @Override
    public Void visitClass(ClassTree t, Void v) {
        classes++;
        Element e = source.elementOf(getCurrentPath());
        boolean outermost = getCurrentPath().getParentPath().getLeaf() == source.unit();
        boolean member = getCurrentPath().getParentPath().getLeaf() instanceof ClassTree;
        rule(2, "no local or anonymous class", t, outermost || member);
        rule(2, "static", t, outermost || e.getModifiers().contains(Modifier.STATIC));
        rule(12, "final, so that no method is overridden", t, e.getModifiers().contains(Modifier.FINAL));
        int fields = 0;
        for (Tree inside : t.getMembers()) {
            rule(5, "no block in a class", inside, inside.getKind() != Tree.Kind.BLOCK);
            boolean field = inside instanceof VariableTree;
            if (field && !((VariableTree) inside).getModifiers().getFlags().contains(Modifier.STATIC)) {
                fields++;
            }
        }
        rule(11, "at most twenty fields", t, fields <= MOST_FIELDS);
        return super.visitClass(t, v);
    }

    @Override
    public Void visitVariable(VariableTree t, Void v) {
        Element e = source.elementOf(getCurrentPath());
        rule(3, t.getName() + " is of a type that is left", t, isType(e.asType()));
        if (e.getModifiers().contains(Modifier.STATIC)) {
            rule(5, t.getName() + " is final", t, e.getModifiers().contains(Modifier.FINAL));
            rule(5, t.getName() + " is a constant", t, isConstant(e, t.getInitializer()));
        }
        return super.visitVariable(t, v);
    }

    private boolean isConstant(Element e, ExpressionTree initializer) {
        TypeMirror type = e.asType();
        if (type instanceof ArrayType) {
            boolean written = initializer instanceof NewArrayTree && ((NewArrayTree) initializer).getInitializers() != null;
            return written && CONSTANT_ROWS.contains(((ArrayType) type).getComponentType().getKind());
        }
        boolean told = ((VariableElement) e).getConstantValue() != null;
        return told && (CONSTANTS.contains(type.getKind()) || type.toString().equals("java.lang.String"));
    }

    private boolean isType(TypeMirror type) {
        if (type instanceof ArrayType) {
            TypeMirror of = ((ArrayType) type).getComponentType();
            return of instanceof ArrayType ? ((ArrayType) of).getComponentType().getKind().isPrimitive()
                : of.getKind().isPrimitive() || isOwn(source.elementOf(of));
        }
        return type.getKind().isPrimitive() || type.toString().equals("java.lang.String") || isOwn(source.elementOf(type));
    }

    @Override
    public Void visitMethod(MethodTree t, Void v) {
        ExecutableElement e = (ExecutableElement) source.elementOf(getCurrentPath());
        calls.add(e);
        rule(11, t.getName() + " has at most seven parameters", t, t.getParameters().size() <= MOST_PARAMETERS);
        rule(11, t.getName() + " is short", t, source.linesOf(t) <= MOST_LINES);
        TypeMirror answer = e.getReturnType();
        rule(3, t.getName() + " answers a type that is left", t, answer.getKind() == TypeKind.VOID || isType(answer));
        return super.visitMethod(t, v);
    }

    // ---- calls

    @Override
    public Void visitMethodInvocation(MethodInvocationTree t, Void v) {
        call(t, (ExecutableElement) source.elementOf(getCurrentPath()));
        return super.visitMethodInvocation(t, v);
    }

    @Override
    public Void visitNewClass(NewClassTree t, Void v) {
        rule(12, "new outside loops, or in constructors", t, isMadeOnce());
        call(t, (ExecutableElement) source.elementOf(getCurrentPath()));
        return super.visitNewClass(t, v);
    }

    @Override
    public Void visitNewArray(NewArrayTree t, Void v) {
        rule(12, "new outside loops, or in constructors", t, isMadeOnce());
        return super.visitNewArray(t, v);
    }

    private boolean isMadeOnce() {
        boolean looped = false;
        for (Tree at : getCurrentPath()) {
            looped |= at instanceof ForLoopTree || at instanceof WhileLoopTree || at instanceof DoWhileLoopTree;
        }
        MethodTree within = methodAround();
        return !looped || within == null || within.getReturnType() == null;
    }

    private MethodTree methodAround() {
        for (Tree at : getCurrentPath()) {
            if (at instanceof MethodTree) {
                return (MethodTree) at;
            }
        }
        return null;
    }

    private void call(Tree t, ExecutableElement to) {
        MethodTree from = methodAround();
        boolean superCall = from != null && from.getReturnType() == null && to.getSimpleName().contentEquals("<init>")
            && !isOwn(to);
        if (superCall) {
            return;
        }
        if (isOwn(to)) {
            if (from != null) {
                calls.add((ExecutableElement) source.elementOf(source.pathOf(from)), to);
            }
            return;
        }
        String name = ((TypeElement) to.getEnclosingElement()).getQualifiedName() + "." + to.getSimpleName();
        rule(4, name + " stands in the library's list", t, LIBRARY.contains(name));
    }

    private void lookAtCalls() {
        for (ExecutableElement method : calls.methods()) {
            String name = method.getEnclosingElement().getSimpleName() + "." + method.getSimpleName();
            int deep = calls.depthOf(method);
            dues.due("rule 11: " + name + " goes " + deep + " deep, at most eight", deep <= MOST_DEEP, true);
            if (calls.isRecursive(method)) {
                dues.due("rule 8: " + name + " carries its depth", carriesDepth(method), true);
                dues.due("rule 8: " + name + " is private", method.getModifiers().contains(Modifier.PRIVATE), true);
            }
        }
    }

    private static boolean carriesDepth(ExecutableElement method) {
        for (VariableElement p : method.getParameters()) {
            if (DEPTHS.contains(p.getSimpleName().toString())) {
                return true;
            }
        }
        return false;
    }

    // ---- what stands in methods

    @Override
    public Void visitBinary(BinaryTree t, Void v) {
        TypeMirror left = source.typeOf(getCurrentPath(), t.getLeftOperand());
        TypeMirror right = source.typeOf(getCurrentPath(), t.getRightOperand());
        boolean texts = isBoxed(left) || isBoxed(right);
        switch (t.getKind()) {
            case PLUS:
                rule(10, "texts aren't joined by +", t, !texts);
                break;
            case EQUAL_TO:
            case NOT_EQUAL_TO:
                rule(6, "no texts are compared by == or !=", t, !texts);
                break;
            case DIVIDE:
            case REMAINDER:
                rule(7, "a divisor is looked at before it divides", t, isDivisor(t.getRightOperand()));
                break;
            default:
                break;
        }
        return super.visitBinary(t, v);
    }

    private static boolean isBoxed(TypeMirror type) {
        return type.toString().equals("java.lang.String") || type.toString().equals("java.lang.Integer");
    }

    /** A constant other than 0, or what stands behind "divisor == 0 ? .. :". */
    private boolean isDivisor(ExpressionTree divisor) {
        if (divisor instanceof LiteralTree) {
            return !divisor.toString().equals("0");
        }
        Element e = source.elementOf(new TreePath(getCurrentPath(), divisor));
        if (e instanceof VariableElement && ((VariableElement) e).getConstantValue() != null) {
            return !((VariableElement) e).getConstantValue().toString().equals("0");
        }
        Tree below = null;
        for (Tree at : getCurrentPath()) {
            if (at instanceof ConditionalExpressionTree) {
                ConditionalExpressionTree choice = (ConditionalExpressionTree) at;
                boolean tested = bare(choice.getCondition()).toString().equals(divisor + " == 0");
                if (tested && choice.getFalseExpression() == below) {
                    return true;
                }
            }
            below = at;
        }
        return false;
    }

    private static ExpressionTree bare(ExpressionTree t) {
        return t instanceof ParenthesizedTree ? ((ParenthesizedTree) t).getExpression() : t;
    }

    @Override
    public Void visitCompoundAssignment(CompoundAssignmentTree t, Void v) {
        rule(7, "no /= or %=", t, t.getKind() != Tree.Kind.DIVIDE_ASSIGNMENT && t.getKind() != Tree.Kind.REMAINDER_ASSIGNMENT);
        rule(10, "texts aren't joined by +=", t, !isBoxed(source.typeOf(getCurrentPath(), t.getVariable())));
        rule(5, "no constant row changes", t, !isOfConstant(t.getVariable()));
        return super.visitCompoundAssignment(t, v);
    }

    @Override
    public Void visitAssignment(AssignmentTree t, Void v) {
        rule(5, "no constant row changes", t, !isOfConstant(t.getVariable()));
        return super.visitAssignment(t, v);
    }

    @Override
    public Void visitUnary(UnaryTree t, Void v) {
        boolean changes = t.getKind().toString().contains("CREMENT");
        rule(5, "no constant row changes", t, !changes || !isOfConstant(t.getExpression()));
        return super.visitUnary(t, v);
    }

    private boolean isOfConstant(ExpressionTree target) {
        if (!(target instanceof ArrayAccessTree)) {
            return false;
        }
        Element e = source.elementOf(new TreePath(getCurrentPath(), ((ArrayAccessTree) target).getExpression()));
        return e != null && e.getModifiers().contains(Modifier.STATIC);
    }

    @Override
    public Void visitTypeCast(TypeCastTree t, Void v) {
        TypeMirror to = source.typeOf(getCurrentPath(), t.getType());
        rule(7, "casts are among numbers alone", t, to.getKind().isPrimitive());
        return super.visitTypeCast(t, v);
    }

    @Override
    public Void visitLiteral(LiteralTree t, Void v) {
        String shown = t.getValue() == null ? "" : t.getValue().toString();
        for (int i = 0; i < shown.length(); i++) {
            rule(4, "signs of constants are 1 to 127", t, shown.charAt(i) >= 1 && shown.charAt(i) <= 127);
        }
        return super.visitLiteral(t, v);
    }

    @Override
    public Void visitForLoop(ForLoopTree t, Void v) {
        rule(9, "a loop has an end", t, t.getCondition() != null && !t.getUpdate().isEmpty());
        return super.visitForLoop(t, v);
    }

    @Override
    public Void visitWhileLoop(WhileLoopTree t, Void v) {
        rule(9, "a loop has an end", t, !(bare(t.getCondition()) instanceof LiteralTree));
        return super.visitWhileLoop(t, v);
    }

    @Override
    public Void visitDoWhileLoop(DoWhileLoopTree t, Void v) {
        rule(9, "a loop has an end", t, !(bare(t.getCondition()) instanceof LiteralTree));
        return super.visitDoWhileLoop(t, v);
    }
}
