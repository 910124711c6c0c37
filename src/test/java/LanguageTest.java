import com.sun.source.tree.ArrayAccessTree;
import com.sun.source.tree.AssertTree;
import com.sun.source.tree.AssignmentTree;
import com.sun.source.tree.BinaryTree;
import com.sun.source.tree.BlockTree;
import com.sun.source.tree.ClassTree;
import com.sun.source.tree.CompoundAssignmentTree;
import com.sun.source.tree.DoWhileLoopTree;
import com.sun.source.tree.EnhancedForLoopTree;
import com.sun.source.tree.ExpressionTree;
import com.sun.source.tree.ForLoopTree;
import com.sun.source.tree.IdentifierTree;
import com.sun.source.tree.ImportTree;
import com.sun.source.tree.LambdaExpressionTree;
import com.sun.source.tree.LiteralTree;
import com.sun.source.tree.MemberReferenceTree;
import com.sun.source.tree.MemberSelectTree;
import com.sun.source.tree.MethodInvocationTree;
import com.sun.source.tree.MethodTree;
import com.sun.source.tree.NewArrayTree;
import com.sun.source.tree.NewClassTree;
import com.sun.source.tree.SynchronizedTree;
import com.sun.source.tree.ThrowTree;
import com.sun.source.tree.Tree;
import com.sun.source.tree.TryTree;
import com.sun.source.tree.TypeCastTree;
import com.sun.source.tree.UnaryTree;
import com.sun.source.tree.VariableTree;
import com.sun.source.tree.WhileLoopTree;
import com.sun.source.util.TreePath;
import com.sun.source.util.TreePathScanner;
import com.sun.source.util.TreeScanner;
import java.nio.file.Files;
import java.nio.file.Path;
import java.util.Collections;
import java.util.HashSet;
import java.util.Map;
import java.util.Set;
import javax.lang.model.element.Element;
import javax.lang.model.element.ElementKind;
import javax.lang.model.element.ExecutableElement;
import javax.lang.model.element.Modifier;
import javax.lang.model.element.VariableElement;
import javax.lang.model.type.ArrayType;
import javax.lang.model.type.TypeKind;
import javax.lang.model.type.TypeMirror;

/**
 * The rules of LANGUAGE.md, told from the class's text as javac reads it; each wrong is told with its line and
 * the rule's number. Where the class needs less than a rule leaves (no doubles, no lists, no recursion), less is let
 * through here. Rules 1 and 7 are for the most part those of FaceTest and of the tests that call with all numbers.
 */
public final class LanguageTest extends TreePathScanner<Void, Void> {
    private static final String FILE = "src/main/java/HullOffsets.java";
    private static final int MOST_LINES = 60, MOST_PARAMETERS = 7, MOST_FIELDS = 20, MOST_CLASSES = 12, MOST_DEEP = 8;

    private static final Map<String, Set<String>> LIBRARY = Map.of(
            "java.lang.Math", Set.of("abs", "max", "min", "floorDiv", "floorMod"),
            "java.lang.System", Set.of("arraycopy"),
            "java.util.Arrays", Set.of("copyOf", "copyOfRange", "fill"),
            "Array", Set.of("clone"));
    private static final Set<TypeKind> NUMBERS =
            Set.of(TypeKind.INT, TypeKind.LONG, TypeKind.SHORT, TypeKind.BYTE, TypeKind.CHAR);
    private static final Set<String> STATICS = Set.of("int", "long", "boolean", "char", "java.lang.String",
            "int[]", "long[]", "char[]", "byte[]");

    private final Check check = new Check("LanguageTest");
    private final Source source;
    private int classes = 0;

    private LanguageTest() throws Exception {
        source = new Source(FILE);
    }

    public static void main(String[] args) throws Exception {
        LanguageTest test = new LanguageTest();
        test.scan(test.source.unit, null);
        test.wholeFile();
        test.depths();
        test.check.end();
    }

    private void rule(int number, Tree at, String what, boolean is) {
        check.isTrue("rule " + number + ", line " + source.lineOf(at) + ": " + what, is);
    }

    private Tree parent() {
        return getCurrentPath().getParentPath().getLeaf();
    }

    private Element element() {
        return source.elementOf(getCurrentPath());
    }

    private TypeMirror typeOf(Tree part) {
        return source.typeOf(new TreePath(getCurrentPath(), part));
    }

    private void wholeFile() throws Exception {
        check.isTrue("the file has no package line", source.unit.getPackageName() == null);
        check.due("classes that are not inside another", source.unit.getTypeDecls().size(), 1);
        check.isTrue("rule 11: at most some twelve classes, not " + classes, classes <= MOST_CLASSES);
        check.isTrue("the text's signs are plain", Files.readString(Path.of(FILE)).chars()
                .allMatch(c -> c == '\n' || c >= ' ' && c < 127));
    }

    /** Rules 8 and 11. */
    private void depths() {
        for (String method : source.methods()) {
            int depth = source.depthOf(method);
            check.isTrue("rule 8: " + method + " does not recur", depth < 1000);
            check.isTrue("rule 11: calls from " + method + " go at most eight deep, not " + depth, depth <= MOST_DEEP);
        }
    }

    // ---- rules 1, 2, 5, 11: classes, methods, fields

    @Override
    public Void visitClass(ClassTree own, Void none) {
        classes++;
        Set<Modifier> is = own.getModifiers().getFlags();
        boolean isInside = parent() instanceof ClassTree;
        rule(2, own, "no local and no nameless class", isInside || parent() == source.unit);
        if (isInside) {
            rule(1, own, "a class inside is private or package-visible and static", is.contains(Modifier.STATIC)
                    && !is.contains(Modifier.PUBLIC) && !is.contains(Modifier.PROTECTED));
        }
        int fields = 0;
        for (Tree member : own.getMembers()) {
            rule(5, member, "no block that is run by itself", !(member instanceof BlockTree));
            if (member instanceof VariableTree field && !field.getModifiers().getFlags().contains(Modifier.STATIC)) {
                fields++;
            }
        }
        rule(11, own, "a class has some twenty fields", fields <= MOST_FIELDS);
        return super.visitClass(own, none);
    }

    @Override
    public Void visitMethod(MethodTree method, Void none) {
        rule(11, method, "at most seven parameters", method.getParameters().size() <= MOST_PARAMETERS);
        rule(11, method, "methods stay short", source.linesOf(method) <= MOST_LINES || isUnwritten(method));
        rule(6, method, "no equals, hashCode, toString, and nothing thrown", method.getThrows().isEmpty()
                && !Set.of("equals", "hashCode", "toString", "finalize").contains(method.getName().toString()));
        rule(6, method, "no method is synchronized, native or strictfp", Collections.disjoint(method.getModifiers().getFlags(),
                Set.of(Modifier.SYNCHRONIZED, Modifier.NATIVE, Modifier.STRICTFP)));
        if (method.getReturnType() != null) {
            rule(3, method, "an answer's type", isLet(typeOf(method.getReturnType())));
        }
        return super.visitMethod(method, none);
    }

    /** javac adds constructors where none is written, with the place of the whole class. */
    private boolean isUnwritten(MethodTree method) {
        return method.getReturnType() == null && source.lineOf(method) == source.lineOf(parent());
    }

    @Override
    public Void visitVariable(VariableTree variable, Void none) {
        rule(3, variable, "the type of " + variable.getName(), isLet(typeOf(variable.getType())));
        Set<Modifier> is = variable.getModifiers().getFlags();
        if (is.contains(Modifier.STATIC)) {
            String type = typeOf(variable.getType()).toString();
            rule(5, variable, "a static field is a final constant", is.contains(Modifier.FINAL) && STATICS.contains(type)
                    && variable.getInitializer() != null && (!type.endsWith("]") || isWrittenOut(variable)));
        }
        return super.visitVariable(variable, none);
    }

    private static boolean isWrittenOut(VariableTree field) {
        return field.getInitializer() instanceof NewArrayTree row && row.getInitializers() != null;
    }

    // ---- rule 3: types

    /** Numbers, boolean, own classes, String; rows of them; rows of rows of numbers. */
    private boolean isLet(TypeMirror type) {
        if (type.getKind() == TypeKind.ARRAY) {
            TypeMirror in = ((ArrayType) type).getComponentType();
            boolean isRowOfNumbers = in.getKind() == TypeKind.ARRAY
                    && NUMBERS.contains(((ArrayType) in).getComponentType().getKind());
            return isRowOfNumbers || in.getKind() != TypeKind.ARRAY && isLet(in) && !isString(in);
        }
        return NUMBERS.contains(type.getKind()) || type.getKind() == TypeKind.BOOLEAN || type.getKind() == TypeKind.VOID
                || isString(type) || source.isOwn(type.toString());
    }

    private static boolean isString(TypeMirror type) {
        return type != null && type.toString().equals("java.lang.String");
    }

    @Override
    public Void visitTypeCast(TypeCastTree cast, Void none) {
        rule(6, cast, "only numbers are cast", NUMBERS.contains(typeOf(cast.getType()).getKind()));
        return super.visitTypeCast(cast, none);
    }

    @Override
    public Void visitLiteral(LiteralTree literal, Void none) {
        rule(3, literal, "no doubles and floats", !(literal.getValue() instanceof Double || literal.getValue() instanceof Float));
        return super.visitLiteral(literal, none);
    }

    // ---- rules 4, 12, 13: the library, and what is made

    @Override
    public Void visitImport(ImportTree line, Void none) {
        rule(4, line, "nothing is imported", false);
        return super.visitImport(line, none);
    }

    @Override
    public Void visitMethodInvocation(MethodInvocationTree call, Void none) {
        if (element() instanceof ExecutableElement called && called.getKind() == ElementKind.METHOD) {
            String owner = called.getEnclosingElement().toString();
            boolean isListed = LIBRARY.getOrDefault(owner, Set.of()).contains(called.getSimpleName().toString());
            rule(4, call, called + " of " + owner + " is one's own or listed", source.isOwn(owner) || isListed);
            // What makes a row would make one with each call.
            rule(12, call, called + " makes a row for a field alone",
                    !Set.of("clone", "copyOf", "copyOfRange").contains(called.getSimpleName().toString()) || isOfAField());
        }
        return super.visitMethodInvocation(call, none);
    }

    @Override
    public Void visitNewClass(NewClassTree made, Void none) {
        rule(2, made, "no nameless class", made.getClassBody() == null);
        rule(4, made, "only one's own objects are made", source.isOwn(typeOf(made.getIdentifier()).toString()));
        rule(12, made, "an object is made for a field alone", isOfAField());
        return super.visitNewClass(made, none);
    }

    @Override
    public Void visitNewArray(NewArrayTree made, Void none) {
        rule(12, made, "a row is made for a field alone", isOfAField());
        return super.visitNewArray(made, none);
    }

    /** All calls of a run share one room, so rows are made with the object and used again. */
    private boolean isOfAField() {
        TreePath path = getCurrentPath();
        return parent() instanceof VariableTree && path.getParentPath().getParentPath().getLeaf() instanceof ClassTree;
    }

    // ---- rule 5: static rows are never changed

    @Override
    public Void visitIdentifier(IdentifierTree name, Void none) {
        lookAtStaticRow(name);
        return super.visitIdentifier(name, none);
    }

    @Override
    public Void visitMemberSelect(MemberSelectTree member, Void none) {
        lookAtStaticRow(member);
        return super.visitMemberSelect(member, none);
    }

    private void lookAtStaticRow(ExpressionTree named) {
        boolean isStaticRow = element() instanceof VariableElement field && field.getModifiers().contains(Modifier.STATIC)
                && field.asType().getKind() == TypeKind.ARRAY;
        if (isStaticRow) {
            boolean isAsked = parent() instanceof MemberSelectTree;
            boolean isRead = parent() instanceof ArrayAccessTree part && part.getExpression() == named && !isWritten(part);
            rule(5, named, named + " is only read", isAsked || isRead);
        }
    }

    private boolean isWritten(ArrayAccessTree part) {
        Tree around = getCurrentPath().getParentPath().getParentPath().getLeaf();
        return around instanceof AssignmentTree set && set.getVariable() == part
                || around instanceof CompoundAssignmentTree || around instanceof UnaryTree;
    }

    // ---- rules 2, 6: what is never written

    @Override
    public Void visitLambdaExpression(LambdaExpressionTree lambda, Void none) {
        rule(2, lambda, "no lambda", false);
        return super.visitLambdaExpression(lambda, none);
    }

    @Override
    public Void visitMemberReference(MemberReferenceTree reference, Void none) {
        rule(2, reference, "no method reference", false);
        return super.visitMemberReference(reference, none);
    }

    @Override
    public Void visitThrow(ThrowTree thrown, Void none) {
        rule(6, thrown, "no throw", false);
        return super.visitThrow(thrown, none);
    }

    @Override
    public Void visitTry(TryTree tried, Void none) {
        rule(6, tried, "no try", false);
        return super.visitTry(tried, none);
    }

    @Override
    public Void visitSynchronized(SynchronizedTree part, Void none) {
        rule(6, part, "no synchronized", false);
        return super.visitSynchronized(part, none);
    }

    @Override
    public Void visitAssert(AssertTree part, Void none) {
        rule(6, part, "no assert", false);
        return super.visitAssert(part, none);
    }

    // ---- rules 6, 7, 10: what stands between two values

    @Override
    public Void visitBinary(BinaryTree pair, Void none) {
        boolean isOfTexts = isString(typeOf(pair.getLeftOperand())) || isString(typeOf(pair.getRightOperand()));
        rule(10, pair, "no texts joined or compared: " + pair, !isOfTexts);
        if (pair.getKind() == Tree.Kind.DIVIDE || pair.getKind() == Tree.Kind.REMAINDER) {
            rule(7, pair, "the divisor is looked at: " + pair, isLookedAt(pair.getRightOperand()));
        }
        return super.visitBinary(pair, none);
    }

    @Override
    public Void visitCompoundAssignment(CompoundAssignmentTree set, Void none) {
        boolean divides = set.getKind() == Tree.Kind.DIVIDE_ASSIGNMENT || set.getKind() == Tree.Kind.REMAINDER_ASSIGNMENT;
        rule(7, set, "the divisor is looked at: " + set, !divides || isLookedAt(set.getExpression()));
        rule(10, set, "no texts joined", !isString(typeOf(set.getVariable())));
        return super.visitCompoundAssignment(set, none);
    }

    /** A number that is not 0, or a name that the same method compares with 0. */
    private boolean isLookedAt(ExpressionTree divisor) {
        if (divisor instanceof LiteralTree literal) {
            return !literal.toString().equals("0");
        }
        Set<String> compared = new HashSet<>();
        new TreeScanner<Void, Void>() {
            @Override
            public Void visitBinary(BinaryTree pair, Void none) {
                boolean isEquality = pair.getKind() == Tree.Kind.EQUAL_TO || pair.getKind() == Tree.Kind.NOT_EQUAL_TO;
                if (isEquality && pair.getRightOperand().toString().equals("0")) {
                    compared.add(pair.getLeftOperand().toString());
                }
                return super.visitBinary(pair, none);
            }
        }.scan(methodAround(), null);
        return compared.contains(divisor.toString());
    }

    private Tree methodAround() {
        TreePath path = getCurrentPath();
        while (!(path.getLeaf() instanceof MethodTree) && path.getParentPath() != null) {
            path = path.getParentPath();
        }
        return path.getLeaf();
    }

    // ---- rule 9: loops

    @Override
    public Void visitForLoop(ForLoopTree loop, Void none) {
        rule(9, loop, "a counter goes to a bound", counts(loop.getCondition(), loop));
        return super.visitForLoop(loop, none);
    }

    @Override
    public Void visitWhileLoop(WhileLoopTree loop, Void none) {
        rule(9, loop, "a counter goes to a bound", counts(loop.getCondition(), loop));
        return super.visitWhileLoop(loop, none);
    }

    @Override
    public Void visitDoWhileLoop(DoWhileLoopTree loop, Void none) {
        rule(9, loop, "a counter goes to a bound", counts(loop.getCondition(), loop));
        return super.visitDoWhileLoop(loop, none);
    }

    @Override
    public Void visitEnhancedForLoop(EnhancedForLoopTree loop, Void none) {
        rule(9, loop, "only a row is gone over", typeOf(loop.getExpression()).getKind() == TypeKind.ARRAY);
        return super.visitEnhancedForLoop(loop, none);
    }

    /** Whether a part of the condition that must hold compares, by less or more, a name that the loop steps on the right way. */
    private static boolean counts(ExpressionTree condition, Tree loop) {
        Set<String> stepped = new HashSet<>();
        new TreeScanner<Void, Void>() {
            @Override
            public Void visitUnary(UnaryTree step, Void none) {
                stepped.add(step.getKind() + " " + step.getExpression());
                return super.visitUnary(step, none);
            }
        }.scan(loop, null);
        return condition != null && compares(condition, stepped);
    }

    private static boolean compares(ExpressionTree condition, Set<String> stepped) {
        ExpressionTree plain = condition;
        while (plain instanceof com.sun.source.tree.ParenthesizedTree inside) {
            plain = inside.getExpression();
        }
        if (!(plain instanceof BinaryTree pair)) {
            return false;
        }
        switch (pair.getKind()) {
            case CONDITIONAL_AND:
                return compares(pair.getLeftOperand(), stepped) || compares(pair.getRightOperand(), stepped);
            case LESS_THAN, LESS_THAN_EQUAL:
                return stepped.contains(Tree.Kind.POSTFIX_INCREMENT + " " + pair.getLeftOperand());
            case GREATER_THAN, GREATER_THAN_EQUAL:
                return stepped.contains(Tree.Kind.POSTFIX_DECREMENT + " " + pair.getLeftOperand());
            default:
                return false;
        }
    }
}
