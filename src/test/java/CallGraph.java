import java.util.ArrayList;
import java.util.LinkedHashMap;
import java.util.LinkedHashSet;
import java.util.List;
import java.util.Map;
import java.util.Set;
import javax.lang.model.element.ExecutableElement;
import javax.lang.model.element.Modifier;

/** Which method of the program calls which, and how deep calls go. */
final class CallGraph {
    private static final int DEEPEST = 8;

    private final Map<ExecutableElement, Set<ExecutableElement>> called = new LinkedHashMap<>();
    private final List<String> faults = new ArrayList<>();

    void addMethod(ExecutableElement method) {
        called.putIfAbsent(method, new LinkedHashSet<>());
    }

    /** A call in the first value of a field stands in no method. */
    void addCall(ExecutableElement caller, ExecutableElement method) {
        if (caller != null) {
            addMethod(caller);
            called.get(caller).add(method);
        }
    }

    List<String> findFaults() {
        for (ExecutableElement method : called.keySet()) {
            follow(method, new ArrayList<>());
        }
        return faults;
    }

    /** Follows all calls from a method; a method that calls itself counts once. */
    private void follow(ExecutableElement method, List<ExecutableElement> open) {
        if (open.contains(method)) {
            boolean isOwn = open.get(open.size() - 1).equals(method);
            if (!isOwn || !method.getModifiers().containsAll(Set.of(Modifier.PRIVATE, Modifier.STATIC))) {
                faults.add("rule 8, a recursion that is no private static method's own: " + open + ", " + method);
            }
            return;
        }
        open.add(method);
        if (open.size() > DEEPEST) {
            faults.add("rule 11, calls that go too deep: " + open);
        } else {
            for (ExecutableElement next : called.getOrDefault(method, Set.of())) {
                follow(next, open);
            }
        }
        open.remove(open.size() - 1);
    }
}
