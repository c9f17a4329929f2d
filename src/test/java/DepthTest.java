import java.io.IOException;
import java.lang.reflect.Modifier;
import java.util.Arrays;
import java.util.HashMap;
import java.util.HashSet;
import java.util.Map;
import java.util.Set;
import java.util.TreeMap;

/** LANGUAGE.md, rules 4, 6, 8 and 11, as the compiled class shows them: what it calls, and how deep. */
public final class DepthTest {
    private static final int DEEPEST = 8;
    /** Of the library: what the class uses, all of which rule 4 lists. */
    private static final Set<String> LIBRARY = Set.of("java/lang/Object.<init>()V", "java/lang/Math.max(II)I",
        "java/lang/Math.min(II)I", "java/lang/String.length()I", "java/lang/String.charAt(I)C",
        "java/lang/System.arraycopy(Ljava/lang/Object;ILjava/lang/Object;II)V");
    private static final Map<String, CompiledClass> classes = new TreeMap<>();
    private static final Map<String, Integer> depths = new HashMap<>();
    private static final Set<String> standing = new HashSet<>();
    private static int wrong = 0;

    private static void due(boolean fine, String what) {
        if (!fine) {
            wrong++;
            System.out.println(what);
        }
    }

    private static void read(Class<?> loaded) throws IOException {
        CompiledClass compiled = new CompiledClass(loaded);
        classes.put(compiled.name, compiled);
        for (Class<?> inside : loaded.getDeclaredClasses()) read(inside);
    }

    private static boolean isUnder(String name, String of) {
        return name.equals(of) || classes.containsKey(name) && isUnder(classes.get(name).above, of);
    }

    /** How many calls stand open at once, this one counted; one that comes back to itself is a fault. */
    private static int depth(String owner, String method) {
        CompiledClass at = classes.get(owner);
        if (at == null) return 0;
        if (!at.methods.containsKey(method)) return depth(at.above, method);
        String key = owner + "." + method;
        if (depths.containsKey(key)) return depths.get(key);
        if (!standing.add(key)) {
            due(false, "comes back to itself: " + key);
            return 0;
        }
        int deepest = 0;
        for (CompiledClass.Call call : at.methods.get(method)) deepest = Math.max(deepest, depthOf(call, key));
        standing.remove(key);
        depths.put(key, deepest + 1);
        return deepest + 1;
    }

    private static int depthOf(CompiledClass.Call call, String from) {
        if (!classes.containsKey(call.owner())) {
            due(LIBRARY.contains(call.owner() + "." + call.method()), from + " calls " + call);
            return 0;
        }
        if (call.instruction() == CompiledClass.INVOKE_STATIC || call.instruction() == CompiledClass.INVOKE_SPECIAL) {
            return depth(call.owner(), call.method());
        }
        int deepest = 0;
        for (String name : classes.keySet()) {
            if (isUnder(name, call.owner())) deepest = Math.max(deepest, depth(name, call.method()));
        }
        return deepest;
    }

    private static void fields(Class<?> loaded) {
        long own = Arrays.stream(loaded.getDeclaredFields()).filter(f -> !Modifier.isStatic(f.getModifiers())).count();
        due(own <= 20, "fields of " + loaded + ": " + own);
        for (Class<?> inside : loaded.getDeclaredClasses()) fields(inside);
    }

    public static void main(String[] args) throws IOException {
        read(ToLiftToStrike.class);
        for (CompiledClass compiled : classes.values()) {
            due(compiled.forbidden == 0, compiled.name + " throws, catches or locks");
            for (String method : compiled.methods.keySet()) {
                int deep = depth(compiled.name, method);
                due(deep <= DEEPEST, compiled.name + "." + method + " goes " + deep + " deep");
            }
        }
        int most = depths.values().stream().mapToInt(Integer::intValue).max().orElse(0);
        due(most > 3 && depths.size() > ToLiftToStrike.class.getDeclaredMethods().length, "calls were not found: " + most);
        fields(ToLiftToStrike.class);
        System.out.println(wrong == 0 ? "calls go " + most + " deep" : wrong + " faults in how calls go");
        if (wrong != 0) System.exit(1);
    }
}
