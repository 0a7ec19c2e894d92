import com.sun.source.tree.BinaryTree;
import com.sun.source.tree.IdentifierTree;
import com.sun.source.tree.MemberSelectTree;
import com.sun.source.tree.MethodInvocationTree;
import com.sun.source.tree.Tree;
import com.sun.source.util.TreePath;
import com.sun.source.util.TreePathScanner;
import java.util.Set;
import java.util.TreeSet;
import javax.lang.model.element.Element;
import javax.lang.model.element.ExecutableElement;
import javax.lang.model.element.VariableElement;
import javax.lang.model.type.TypeKind;

/** Names of variables that a method compares or hands to a method that answers yes or no. */
final class LookedAt extends TreePathScanner<Void, Void> {
    private static final Set<Tree.Kind> COMPARISONS = Set.of(Tree.Kind.LESS_THAN, Tree.Kind.LESS_THAN_EQUAL,
        Tree.Kind.GREATER_THAN, Tree.Kind.GREATER_THAN_EQUAL, Tree.Kind.EQUAL_TO, Tree.Kind.NOT_EQUAL_TO);

    private final SourceTree source;
    private final Set<String> names = new TreeSet<>();

    private LookedAt(SourceTree source) {
        this.source = source;
    }

    /** The names that are looked at in a method; none without a method. */
    static Set<String> in(SourceTree source, TreePath method) {
        LookedAt scanner = new LookedAt(source);
        if (method != null) {
            scanner.scan(method, null);
        }
        return scanner.names;
    }

    @Override
    public Void visitBinary(BinaryTree tree, Void none) {
        if (COMPARISONS.contains(tree.getKind())) {
            names.addAll(variablesOf(source, getCurrentPath()));
        }
        return super.visitBinary(tree, none);
    }

    @Override
    public Void visitMethodInvocation(MethodInvocationTree tree, Void none) {
        ExecutableElement called = (ExecutableElement) source.trees.getElement(getCurrentPath());
        if (called.getReturnType().getKind() == TypeKind.BOOLEAN) {
            for (Tree argument : tree.getArguments()) {
                names.addAll(variablesOf(source, new TreePath(getCurrentPath(), argument)));
            }
        }
        return super.visitMethodInvocation(tree, none);
    }

    /** The names of all variables in a part of the source but constants and what they belong to. */
    static Set<String> variablesOf(SourceTree source, TreePath part) {
        Set<String> found = new TreeSet<>();
        new TreePathScanner<Void, Void>() {
            @Override
            public Void visitIdentifier(IdentifierTree tree, Void none) {
                add(tree.getName().toString());
                return null;
            }

            @Override
            public Void visitMemberSelect(MemberSelectTree tree, Void none) {
                add(tree.getIdentifier().toString());
                return null;
            }

            private void add(String name) {
                Element element = source.trees.getElement(getCurrentPath());
                if (element instanceof VariableElement && ((VariableElement) element).getConstantValue() == null) {
                    found.add(name);
                }
            }
        }.scan(part, null);
        return found;
    }
}
