import com.sun.source.tree.ArrayAccessTree;
import com.sun.source.tree.AssertTree;
import com.sun.source.tree.BinaryTree;
import com.sun.source.tree.BlockTree;
import com.sun.source.tree.ClassTree;
import com.sun.source.tree.CompilationUnitTree;
import com.sun.source.tree.CompoundAssignmentTree;
import com.sun.source.tree.DoWhileLoopTree;
import com.sun.source.tree.ExpressionTree;
import com.sun.source.tree.ForLoopTree;
import com.sun.source.tree.ImportTree;
import com.sun.source.tree.LambdaExpressionTree;
import com.sun.source.tree.LiteralTree;
import com.sun.source.tree.MemberReferenceTree;
import com.sun.source.tree.MethodInvocationTree;
import com.sun.source.tree.MethodTree;
import com.sun.source.tree.NewArrayTree;
import com.sun.source.tree.NewClassTree;
import com.sun.source.tree.ParenthesizedTree;
import com.sun.source.tree.SynchronizedTree;
import com.sun.source.tree.ThrowTree;
import com.sun.source.tree.Tree;
import com.sun.source.tree.TryTree;
import com.sun.source.tree.TypeCastTree;
import com.sun.source.tree.VariableTree;
import com.sun.source.tree.WhileLoopTree;
import com.sun.source.util.TreePath;
import com.sun.source.util.TreePathScanner;
import java.util.ArrayList;
import java.util.List;
import java.util.Set;
import javax.lang.model.element.Element;
import javax.lang.model.element.ElementKind;
import javax.lang.model.element.ExecutableElement;
import javax.lang.model.element.Modifier;
import javax.lang.model.element.NestingKind;
import javax.lang.model.element.TypeElement;
import javax.lang.model.element.VariableElement;
import javax.lang.model.type.ArrayType;
import javax.lang.model.type.TypeKind;
import javax.lang.model.type.TypeMirror;

/**
 * Looks through a source for what ../shared/LANGUAGE.md does not let. It asks for more than the
 * rules where the program needs no more: no throw and no try at all, since the document names no
 * exception, and nothing made but in constructors. What the rules ask of all runs (that no index
 * is out of bounds, for one) it only looks at by names; the runs of ModelTest are behind it.
 */
final class SourceRules extends TreePathScanner<Void, Void> {
    private static final int MOST_PARAMETERS = 7;
    private static final int MOST_LINES = 60;
    private static final int MOST_CLASSES = 12;
    private static final int MOST_FIELDS = 20;
    private static final Set<String> IMPORTS = Set.of("java.util.ArrayList", "java.util.List",
        "java.util.Iterator", "java.util.Arrays", "java.util.NoSuchElementException");
    private static final Set<String> LIBRARY = Set.of("String.length()", "String.charAt(int)", "String.isEmpty()",
        "String.equals(java.lang.Object)", "String.indexOf(int)", "String.substring(int)",
        "String.substring(int,int)", "StringBuilder.append(char)", "StringBuilder.append(java.lang.String)",
        "StringBuilder.append(int)", "StringBuilder.charAt(int)", "StringBuilder.setCharAt(int,char)",
        "StringBuilder.setLength(int)", "StringBuilder.length()", "StringBuilder.toString()",
        "List.size()", "List.get(int)", "List.isEmpty()", "ArrayList.add(E)", "ArrayList.get(int)",
        "ArrayList.size()", "ArrayList.isEmpty()", "ArrayList.clear()", "ArrayList.remove(int)",
        "Math.max(int,int)", "Math.min(int,int)", "Math.abs(int)", "Math.floorMod(int,int)",
        "Math.floorDiv(int,int)", "Integer.compare(int,int)",
        "System.arraycopy(java.lang.Object,int,java.lang.Object,int,int)");
    private static final Set<String> INDEXED = Set.of("charAt", "setCharAt", "substring", "get", "remove");
    private static final Set<Tree.Kind> COMPARISONS = Set.of(Tree.Kind.LESS_THAN, Tree.Kind.LESS_THAN_EQUAL,
        Tree.Kind.GREATER_THAN, Tree.Kind.GREATER_THAN_EQUAL);

    private final SourceTree source;
    private final List<String> complaints = new ArrayList<>();
    private int classes;

    private SourceRules(SourceTree source) {
        this.source = source;
    }

    static List<String> complaints(SourceTree source) {
        SourceRules rules = new SourceRules(source);
        rules.scan(source.unit, null);
        rules.complaints.addAll(CallDepth.complaints(source));
        return rules.complaints;
    }

    private void need(boolean holds, int rule, String what) {
        if (!holds) {
            long start = source.trees.getSourcePositions().getStartPosition(source.unit, getCurrentPath().getLeaf());
            complaints.add("rule " + rule + ", line " + lineOf(start) + ": " + what);
        }
    }

    private long lineOf(long position) {
        return position < 0 ? 0 : source.unit.getLineMap().getLineNumber(position);
    }

    private Element element() {
        return source.trees.getElement(getCurrentPath());
    }

    private TypeMirror typeOf(Tree part) {
        return source.trees.getTypeMirror(new TreePath(getCurrentPath(), part));
    }

    // ---- the file and its classes

    @Override
    public Void visitCompilationUnit(CompilationUnitTree unit, Void none) {
        need(unit.getPackageName() == null && unit.getTypeDecls().size() == 1, 1, "one class without a package");
        for (ImportTree each : unit.getImports()) {
            need(IMPORTS.contains(each.getQualifiedIdentifier().toString()), 4, "import");
        }
        for (int i = 0; i < source.text.length(); i++) {
            need(source.text.charAt(i) <= 126, 3, "a sign above 126");
        }
        super.visitCompilationUnit(unit, none);
        need(classes <= MOST_CLASSES, 11, classes + " classes");
        return null;
    }

    @Override
    public Void visitClass(ClassTree tree, Void none) {
        TypeElement type = (TypeElement) element();
        Set<Modifier> modifiers = type.getModifiers();
        classes++;
        if (type.getNestingKind() == NestingKind.TOP_LEVEL) {
            need(modifiers.contains(Modifier.PUBLIC) && modifiers.contains(Modifier.FINAL), 1, "public and final");
            for (Element member : type.getEnclosedElements()) {
                boolean isPart = !(member instanceof TypeElement);
                Set<Modifier> of = member.getModifiers();
                need(!isPart || of.contains(Modifier.PUBLIC) || of.contains(Modifier.PRIVATE), 1, "seen: " + member);
            }
        } else {
            need(type.getNestingKind() == NestingKind.MEMBER, 2, "a class inside a method");
            need(modifiers.contains(Modifier.STATIC), 1, "an inner class that is not static");
            need(!modifiers.contains(Modifier.PUBLIC) && !modifiers.contains(Modifier.PROTECTED), 1, "an open class");
        }
        fieldsOf(type);
        return super.visitClass(tree, none);
    }

    private void fieldsOf(TypeElement type) {
        int fields = 0;
        for (Element member : type.getEnclosedElements()) {
            boolean isState = member.getKind() == ElementKind.FIELD && !member.getModifiers().contains(Modifier.STATIC);
            fields += isState ? 1 : 0;
            if (isState && type.getKind() == ElementKind.ENUM) {
                String name = member.asType().toString();
                need(Set.of("int", "long", "boolean", "java.lang.String").contains(name), 2, "a field of an enum");
            }
        }
        need(fields <= MOST_FIELDS, 11, fields + " fields");
    }

    @Override
    public Void visitLambdaExpression(LambdaExpressionTree tree, Void none) {
        need(false, 2, "a lambda");
        return super.visitLambdaExpression(tree, none);
    }

    @Override
    public Void visitMemberReference(MemberReferenceTree tree, Void none) {
        need(false, 2, "a method reference");
        return super.visitMemberReference(tree, none);
    }

    // ---- variables, methods and their types

    @Override
    public Void visitVariable(VariableTree tree, Void none) {
        VariableElement variable = (VariableElement) element();
        if (variable.getKind() != ElementKind.ENUM_CONSTANT) {
            need(isLet(variable.asType()), 3, "the type " + variable.asType());
            if (variable.getModifiers().contains(Modifier.STATIC)) {
                need(variable.getModifiers().contains(Modifier.FINAL), 5, "a static field that changes");
                need(isConstant(variable, tree.getInitializer()), 5, "a static field that is no constant");
            }
        }
        return super.visitVariable(tree, none);
    }

    private boolean isConstant(VariableElement field, ExpressionTree value) {
        if (value instanceof MethodInvocationTree) {
            return value.toString().equals("values()");
        }
        if (field.asType() instanceof ArrayType) {
            String of = ((ArrayType) field.asType()).getComponentType().toString();
            return value instanceof NewArrayTree && Set.of("int", "long", "char", "byte").contains(of);
        }
        return field.getConstantValue() != null;
    }

    private boolean isLet(TypeMirror type) {
        if (type instanceof ArrayType) {
            TypeMirror of = ((ArrayType) type).getComponentType();
            boolean isTable = of instanceof ArrayType && ((ArrayType) of).getComponentType().getKind().isPrimitive();
            return isTable || of.getKind().isPrimitive() || isOwn(of);
        }
        String name = type.toString();
        return type.getKind().isPrimitive() || type.getKind() == TypeKind.VOID || isOwn(type)
            || name.matches("java\\.lang\\.(String|StringBuilder|Integer)")
            || name.matches("java\\.util\\.(ArrayList|List)<(RampPermits\\.\\w+|java\\.lang\\.Integer)>");
    }

    private static boolean isOwn(TypeMirror type) {
        return type.toString().startsWith("RampPermits");
    }

    @Override
    public Void visitMethod(MethodTree tree, Void none) {
        ExecutableElement method = (ExecutableElement) element();
        need(isLet(method.getReturnType()), 3, "answers " + method.getReturnType());
        need(tree.getParameters().size() <= MOST_PARAMETERS, 11, "too many parameters");
        need(!Set.of("equals", "hashCode", "toString").contains(tree.getName().toString()), 6, "a method of Object");
        long first = source.trees.getSourcePositions().getStartPosition(source.unit, tree);
        long last = source.trees.getSourcePositions().getEndPosition(source.unit, tree);
        need(last < 0 || lineOf(last) - lineOf(first) < MOST_LINES, 11, "a long method");
        return super.visitMethod(tree, none);
    }

    @Override
    public Void visitBlock(BlockTree tree, Void none) {
        need(!tree.isStatic(), 5, "a static block");
        return super.visitBlock(tree, none);
    }

    @Override
    public Void visitLiteral(LiteralTree tree, Void none) {
        if (tree.getValue() instanceof String) {
            for (char sign : ((String) tree.getValue()).toCharArray()) {
                need(sign >= 1 && sign <= 127, 4, "a sign of a constant");
            }
        }
        return super.visitLiteral(tree, none);
    }

    // ---- calls and what is made

    @Override
    public Void visitMethodInvocation(MethodInvocationTree tree, Void none) {
        ExecutableElement called = (ExecutableElement) element();
        TypeElement owner = (TypeElement) called.getEnclosingElement();
        if (called.getKind() != ElementKind.CONSTRUCTOR && !isOwn(owner.asType())) {
            String name = owner.getSimpleName() + "." + called;
            need(LIBRARY.contains(name), 4, name);
            if (INDEXED.contains(called.getSimpleName().toString())) {
                tree.getArguments().forEach(this::needLookedAt);
            }
        }
        return super.visitMethodInvocation(tree, none);
    }

    @Override
    public Void visitNewClass(NewClassTree tree, Void none) {
        String name = typeOf(tree.getIdentifier()).toString();
        need(isOwn(typeOf(tree.getIdentifier())) || name.equals("java.lang.StringBuilder")
            || name.startsWith("java.util.ArrayList<"), 4, "makes " + name);
        need(isMadeOnce(), 12, "makes an object in a call");
        return super.visitNewClass(tree, none);
    }

    @Override
    public Void visitNewArray(NewArrayTree tree, Void none) {
        need(isMadeOnce(), 12, "makes an array in a call");
        tree.getDimensions().forEach(this::needLookedAt);
        return super.visitNewArray(tree, none);
    }

    private boolean isMadeOnce() {
        MethodTree method = enclosingMethod();
        return method == null || method.getReturnType() == null;
    }

    private MethodTree enclosingMethod() {
        for (TreePath path = getCurrentPath(); path != null; path = path.getParentPath()) {
            if (path.getLeaf() instanceof MethodTree) {
                return (MethodTree) path.getLeaf();
            }
        }
        return null;
    }

    // ---- exceptions, and what the machine could throw

    @Override
    public Void visitThrow(ThrowTree tree, Void none) {
        need(false, 6, "throw: the document names no exception");
        return super.visitThrow(tree, none);
    }

    @Override
    public Void visitTry(TryTree tree, Void none) {
        need(false, 6, "try: nothing is thrown");
        return super.visitTry(tree, none);
    }

    @Override
    public Void visitAssert(AssertTree tree, Void none) {
        need(false, 6, "assert");
        return super.visitAssert(tree, none);
    }

    @Override
    public Void visitSynchronized(SynchronizedTree tree, Void none) {
        need(false, 6, "synchronized");
        return super.visitSynchronized(tree, none);
    }

    @Override
    public Void visitTypeCast(TypeCastTree tree, Void none) {
        need(typeOf(tree.getType()).getKind().isPrimitive(), 7, "a cast that is none of numbers");
        return super.visitTypeCast(tree, none);
    }

    @Override
    public Void visitArrayAccess(ArrayAccessTree tree, Void none) {
        needLookedAt(tree.getIndex());
        return super.visitArrayAccess(tree, none);
    }

    @Override
    public Void visitBinary(BinaryTree tree, Void none) {
        boolean isText = typeOf(tree).toString().equals("java.lang.String");
        need(!isText, 10, "texts joined by +");
        if (tree.getKind() == Tree.Kind.DIVIDE || tree.getKind() == Tree.Kind.REMAINDER) {
            needLookedAt(tree.getRightOperand());
        }
        if (tree.getKind() == Tree.Kind.EQUAL_TO || tree.getKind() == Tree.Kind.NOT_EQUAL_TO) {
            need(!isBoxOrText(tree.getLeftOperand()) || !isBoxOrText(tree.getRightOperand()), 6, "== of texts");
        }
        return super.visitBinary(tree, none);
    }

    private boolean isBoxOrText(Tree operand) {
        return typeOf(operand).toString().matches("java\\.lang\\.(String|Integer)");
    }

    @Override
    public Void visitCompoundAssignment(CompoundAssignmentTree tree, Void none) {
        need(!typeOf(tree.getVariable()).toString().equals("java.lang.String"), 10, "texts joined by +=");
        if (tree.getKind() == Tree.Kind.DIVIDE_ASSIGNMENT || tree.getKind() == Tree.Kind.REMAINDER_ASSIGNMENT) {
            needLookedAt(tree.getExpression());
        }
        return super.visitCompoundAssignment(tree, none);
    }

    /** Each name in an index, a length or a divisor is compared or asked about in the same method. */
    private void needLookedAt(Tree part) {
        MethodTree method = enclosingMethod();
        TreePath root = method == null ? null : new TreePath(getCurrentPath(), method);
        Set<String> lookedAt = LookedAt.in(source, root);
        for (String name : LookedAt.variablesOf(source, new TreePath(getCurrentPath(), part))) {
            need(lookedAt.contains(name), 7, name + " is not looked at before it is used");
        }
    }

    // ---- loops

    @Override
    public Void visitWhileLoop(WhileLoopTree tree, Void none) {
        needEnd(tree.getCondition());
        return super.visitWhileLoop(tree, none);
    }

    @Override
    public Void visitDoWhileLoop(DoWhileLoopTree tree, Void none) {
        needEnd(tree.getCondition());
        return super.visitDoWhileLoop(tree, none);
    }

    @Override
    public Void visitForLoop(ForLoopTree tree, Void none) {
        needEnd(tree.getCondition());
        return super.visitForLoop(tree, none);
    }

    /** A part of the condition that must hold compares a counter with its bound. */
    private void needEnd(ExpressionTree condition) {
        need(condition != null && isBounded(condition), 9, "a loop without a bound");
    }

    private static boolean isBounded(Tree condition) {
        if (condition instanceof ParenthesizedTree) {
            return isBounded(((ParenthesizedTree) condition).getExpression());
        }
        if (condition.getKind() == Tree.Kind.CONDITIONAL_AND) {
            BinaryTree both = (BinaryTree) condition;
            return isBounded(both.getLeftOperand()) || isBounded(both.getRightOperand());
        }
        return COMPARISONS.contains(condition.getKind());
    }
}
