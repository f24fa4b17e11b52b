import com.sun.source.tree.MethodInvocationTree;
import com.sun.source.tree.MethodTree;
import com.sun.source.tree.NewClassTree;
import com.sun.source.util.TreePathScanner;
import java.util.ArrayList;
import java.util.List;
import java.util.Map;
import java.util.Set;
import java.util.TreeMap;
import java.util.TreeSet;

/** Which method calls which, the library's among them. */
final class CallChains extends TreePathScanner<Void, String> {
    private final SourceCode code;
    private final Map<String, Set<String>> calls = new TreeMap<>();

    CallChains(SourceCode code) {
        this.code = code;
        scan(code.unit(), null);
    }

    @Override
    public Void visitMethod(MethodTree tree, String caller) {
        String name = code.nameOf(code.meaningOf(getCurrentPath()));
        calls.putIfAbsent(name, new TreeSet<>());
        return super.visitMethod(tree, name);
    }

    @Override
    public Void visitMethodInvocation(MethodInvocationTree tree, String caller) {
        add(caller);
        return super.visitMethodInvocation(tree, caller);
    }

    @Override
    public Void visitNewClass(NewClassTree tree, String caller) {
        add(caller);
        return super.visitNewClass(tree, caller);
    }

    /** What stands outside of methods is a field's first value, which the class's constructor makes. */
    private void add(String caller) {
        String from = caller != null ? caller : ownerOfField();
        calls.computeIfAbsent(from, key -> new TreeSet<>()).add(code.nameOf(code.meaningOf(getCurrentPath())));
    }

    private String ownerOfField() {
        var path = getCurrentPath();
        while (!(path.getLeaf() instanceof com.sun.source.tree.ClassTree)) {
            path = path.getParentPath();
        }
        return (code.meaningOf(path) + ".new").replaceFirst("^GloveAbout\\.(?=.*\\.)", "");
    }

    Set<String> methods() {
        return calls.keySet();
    }

    /** Methods that come back to themselves, by themselves or through others. */
    Set<String> recursive() {
        Set<String> all = new TreeSet<>();
        for (String method : methods()) {
            Set<String> reached = new TreeSet<>();
            reach(method, reached);
            if (reached.contains(method)) {
                all.add(method);
            }
        }
        return all;
    }

    private void reach(String method, Set<String> reached) {
        for (String next : calls.getOrDefault(method, Set.of())) {
            if (reached.add(next)) {
                reach(next, reached);
            }
        }
    }

    /** The longest chain of calls that begins with a method; a recursion counts once. */
    List<String> longestFrom(String method) {
        return longest(method, new ArrayList<>());
    }

    private List<String> longest(String method, List<String> open) {
        List<String> best = new ArrayList<>();
        open.add(method);
        for (String next : calls.getOrDefault(method, Set.of())) {
            if (!open.contains(next)) {
                List<String> chain = longest(next, open);
                best = chain.size() > best.size() ? chain : best;
            }
        }
        open.remove(open.size() - 1);
        best.add(0, method);
        return best;
    }
}
