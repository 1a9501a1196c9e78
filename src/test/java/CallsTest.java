import java.io.IOException;
import java.util.ArrayList;
import java.util.List;
import java.util.Map;
import java.util.Set;
import java.util.TreeMap;

/** The compiled class keeps to what LANGUAGE.md says of calls: whom it may call, and how deep. */
public final class CallsTest {
    private static final int DEEPEST = 8;
    private static final Set<String> LIBRARY = Set.of(
        "java/lang/Object.<init>", "java/lang/String.length", "java/lang/String.charAt", "java/util/Arrays.copyOf",
        "java/util/Arrays.fill", "java/lang/Math.min", "java/lang/Math.max", "java/lang/Math.abs",
        "java/lang/Long.compare");
    // An E within brackets is an E again; the grammar's limit of eight brackets keeps it low.
    private static final Set<String> RECURSIVE = Set.of("StatuteBench$Grammar.formula(I)V",
        "StatuteBench$Grammar.unit(I)V");

    private static final Map<String, List<String>> CALLS = new TreeMap<>();
    private static final Map<String, Integer> DEPTHS = new TreeMap<>();

    public static void main(String[] args) throws IOException {
        List<Class<?>> classes = new ArrayList<>(List.of(StatuteBench.class.getDeclaredClasses()));
        classes.add(StatuteBench.class);
        for (Class<?> each : classes) {
            ClassFile file = new ClassFile(each);
            CALLS.putAll(file.calls);
            Due.by("6. No throw, try, catch, synchronized, assert");
            Due.is("methods of " + each + " that throw, catch or cast: " + file.throwing, file.throwing.size(), 0);
        }
        Due.is("methods were found", CALLS.size() > 100, true);
        Due.is("read is found", CALLS.containsKey("StatuteBench.read()I"), true);
        library();
        depths();
        Due.end();
    }

    private static void library() {
        Due.by("4. The library: only what stands here");
        for (String caller : CALLS.keySet()) {
            for (String called : CALLS.get(caller)) {
                boolean own = CALLS.containsKey(called);
                String name = called.substring(0, Math.max(0, called.indexOf('(')));
                Due.is(caller + " may call " + called, own || LIBRARY.contains(name), true);
            }
        }
    }

    private static void depths() {
        for (String method : CALLS.keySet()) {
            int deep = depth(method, new ArrayList<>());
            Due.by("11. calls that are no recursion go at most eight deep");
            Due.is(method + " goes " + deep + " deep, at most eight", deep <= DEEPEST, true);
        }
    }

    /** How many calls stand open at most, this one and the library's with them; a call back into one open is none. */
    private static int depth(String method, List<String> open) {
        if (DEPTHS.containsKey(method)) {
            return DEPTHS.get(method);
        }
        if (open.contains(method)) {
            Due.by("8. Recursion: the depth is carried as an argument");
            Due.is(method + " calls itself", RECURSIVE.contains(method), true);
            return 0;
        }
        open.add(method);
        int deepest = 0;
        for (String called : CALLS.getOrDefault(method, List.of())) {
            deepest = Math.max(deepest, depth(called, open));
        }
        open.remove(open.size() - 1);
        // What stands within a recursion is deeper or not by where it is entered, so it is not kept.
        if (!RECURSIVE.contains(method)) {
            DEPTHS.put(method, deepest + 1);
        }
        return deepest + 1;
    }
}
