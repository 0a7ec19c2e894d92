import com.sun.source.tree.MethodInvocationTree;
import com.sun.source.tree.MethodTree;
import com.sun.source.tree.NewClassTree;
import com.sun.source.tree.Tree;
import com.sun.source.util.TreePath;
import com.sun.source.util.TreePathScanner;
import java.util.ArrayList;
import java.util.LinkedHashMap;
import java.util.LinkedHashSet;
import java.util.List;
import java.util.Map;
import java.util.Set;
import javax.lang.model.element.Element;

/** How deep calls go: rule 8 (here no recursion at all) and the depth of rule 11. */
final class CallDepth extends TreePathScanner<Void, Void> {
    private static final int MOST_DEEP = 8;

    private final SourceTree source;
    private final Map<Element, Set<Element>> calls = new LinkedHashMap<>();
    private final Map<Element, Integer> depths = new LinkedHashMap<>();
    private final Set<Element> open = new LinkedHashSet<>();
    private final List<String> complaints = new ArrayList<>();

    private CallDepth(SourceTree source) {
        this.source = source;
    }

    static List<String> complaints(SourceTree source) {
        CallDepth depth = new CallDepth(source);
        depth.scan(source.unit, null);
        for (Element method : new ArrayList<>(depth.calls.keySet())) {
            int deep = depth.of(method);
            if (deep > MOST_DEEP) {
                depth.complaints.add("rule 11: calls go " + deep + " deep from " + method);
            }
        }
        return depth.complaints;
    }

    /** How many calls stand open at once when this method is called, its own and the library's too. */
    private int of(Element method) {
        if (open.contains(method)) {
            complaints.add("rule 8: " + method + " calls itself");
            return 0;
        }
        if (!depths.containsKey(method)) {
            open.add(method);
            int deepest = 0;
            for (Element called : calls.getOrDefault(method, Set.of())) {
                deepest = Math.max(deepest, of(called));
            }
            open.remove(method);
            depths.put(method, deepest + 1);
        }
        return depths.get(method);
    }

    @Override
    public Void visitMethodInvocation(MethodInvocationTree tree, Void none) {
        add(source.trees.getElement(getCurrentPath()));
        return super.visitMethodInvocation(tree, none);
    }

    @Override
    public Void visitNewClass(NewClassTree tree, Void none) {
        add(source.trees.getElement(getCurrentPath()));
        return super.visitNewClass(tree, none);
    }

    // What the initialiser of a field calls counts to no method: no program here goes deep by it.
    private void add(Element called) {
        for (TreePath path = getCurrentPath(); path != null; path = path.getParentPath()) {
            Tree leaf = path.getLeaf();
            if (leaf instanceof MethodTree) {
                calls.computeIfAbsent(source.trees.getElement(path), key -> new LinkedHashSet<>()).add(called);
            }
        }
    }
}
