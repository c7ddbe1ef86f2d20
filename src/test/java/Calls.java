import java.util.LinkedHashMap;
import java.util.LinkedHashSet;
import java.util.Map;
import java.util.Set;

/** Which method calls which. */
final class Calls {
    private static final int NO_END = 1000;

    private final Map<String, Set<String>> called = new LinkedHashMap<>();

    void add(String caller, String method) {
        called.computeIfAbsent(caller, any -> new LinkedHashSet<>()).add(method);
    }

    /** How many calls stand open at once, the method itself counted; far more than any if a method comes back to itself. */
    int depth(String method) {
        return depth(method, new LinkedHashSet<>());
    }

    private int depth(String method, Set<String> open) {
        if (!open.add(method)) return NO_END;
        int deepest = 0;
        for (String next : called.getOrDefault(method, Set.of())) deepest = Math.max(deepest, depth(next, open));
        open.remove(method);
        return deepest + 1;
    }
}
