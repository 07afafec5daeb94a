import java.util.Collection;
import java.util.HashMap;
import java.util.HashSet;
import java.util.LinkedHashMap;
import java.util.Map;
import java.util.Set;
import javax.lang.model.element.ExecutableElement;

/** Which methods of the class call which. */
final class Calls {

    private final Map<ExecutableElement, Set<ExecutableElement>> called = new LinkedHashMap<>();
    private final Map<ExecutableElement, Set<ExecutableElement>> reached = new HashMap<>();
    private final Map<ExecutableElement, Integer> depths = new HashMap<>();

    void add(ExecutableElement method) {
        called.putIfAbsent(method, new HashSet<>());
    }

    void add(ExecutableElement from, ExecutableElement to) {
        add(from);
        add(to);
        called.get(from).add(to);
    }

    Collection<ExecutableElement> methods() {
        return called.keySet();
    }

    private Set<ExecutableElement> reachedFrom(ExecutableElement method) {
        if (!reached.containsKey(method)) {
            Set<ExecutableElement> all = new HashSet<>();
            reach(method, all);
            reached.put(method, all);
        }
        return reached.get(method);
    }

    private void reach(ExecutableElement method, Set<ExecutableElement> all) {
        for (ExecutableElement next : called.get(method)) {
            if (all.add(next)) {
                reach(next, all);
            }
        }
    }

    boolean isRecursive(ExecutableElement method) {
        return reachedFrom(method).contains(method);
    }

    /** How many methods stand open at once from this one on, those that call one another in a ring as one. */
    int depthOf(ExecutableElement method) {
        Integer known = depths.get(method);
        if (known != null) {
            return known;
        }
        int deepest = 0;
        for (ExecutableElement next : reachedFrom(method)) {
            if (!reachedFrom(next).contains(method)) {
                deepest = Math.max(deepest, depthOf(next));
            }
        }
        depths.put(method, deepest + 1);
        return deepest + 1;
    }
}
