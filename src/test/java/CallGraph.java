import java.util.HashMap;
import java.util.LinkedHashSet;
import java.util.Map;
import java.util.Set;

/** Which method calls which, to find recursion and how deep calls go. */
final class CallGraph {
    private final Map<String, Set<String>> calls = new HashMap<>();
    private final Map<String, Integer> depths = new HashMap<>();
    private final Set<String> open = new LinkedHashSet<>();
    private boolean recursive = false;

    void add(String caller, String called) {
        calls.computeIfAbsent(caller, name -> new LinkedHashSet<>()).add(called);
    }

    boolean isRecursive() {
        return recursive;
    }

    /** How many calls stand open at once at most, from any method on. */
    int depth() {
        int deepest = 0;
        for (String caller : calls.keySet()) {
            deepest = Math.max(deepest, depthOf(caller));
        }
        return deepest;
    }

    private int depthOf(String name) {
        if (!open.add(name)) {
            recursive = true;
            return 0;
        }
        Integer known = depths.get(name);
        if (known == null) {
            known = 1;
            for (String called : calls.getOrDefault(name, Set.of())) {
                known = Math.max(known, 1 + depthOf(called));
            }
            depths.put(name, known);
        }
        open.remove(name);
        return known;
    }
}
