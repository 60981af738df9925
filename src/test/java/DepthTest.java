import java.lang.reflect.Field;
import java.lang.reflect.Method;
import java.lang.reflect.Modifier;
import java.util.HashMap;
import java.util.List;
import java.util.Map;
import java.util.TreeSet;
import java.util.regex.Matcher;
import java.util.regex.Pattern;

/** LANGUAGE.md, rules 8 and 11: how deep calls go, and how large classes and methods' heads are. */
public final class DepthTest {
    private static final Pattern CALL = Pattern.compile("// (?:Interface)?Method (?:([\\w$]+)\\.)?\"?([\\w$<>]+)\"?:");

    /** For each method the own ones that it calls. */
    private final Map<String, TreeSet<String>> calls = new HashMap<>();
    private final Map<String, Integer> depths = new HashMap<>();

    private void read(String method, List<String> lines) {
        String owner = method.substring(0, method.lastIndexOf('.'));
        TreeSet<String> called = new TreeSet<>();
        for (String line : lines) {
            Matcher call = CALL.matcher(line);
            if (call.find()) {
                String target = call.group(1) == null ? owner : call.group(1);
                if (target.startsWith("ObservantYard")) {
                    called.add(target + "." + call.group(2));
                }
            }
        }
        calls.put(method, called);
    }

    /** A call that leads back to itself would go on for ever here. */
    private int depth(String method, int open) {
        if (open > 50) {
            return open;
        }
        Integer known = depths.get(method);
        if (known == null) {
            known = 1;
            for (String called : calls.getOrDefault(method, new TreeSet<>())) {
                known = Math.max(known, 1 + depth(called, open + 1));
            }
            depths.put(method, known);
        }
        return known;
    }

    private static void sizes(Class<?> each) {
        int fields = 0;
        for (Field field : each.getDeclaredFields()) {
            fields += Modifier.isStatic(field.getModifiers()) ? 0 : 1;
        }
        Check.is(fields <= 20 ? "" : each + " has " + fields, "");
        for (Method method : each.getDeclaredMethods()) {
            Check.is(method.getParameterCount() <= 7, true);
        }
    }

    public static void main(String[] args) {
        DepthTest test = new DepthTest();
        Bytecode.methods().forEach(test::read);
        for (Class<?> each : Bytecode.classes()) {
            sizes(each);
        }
        Check.is(test.calls.size() > 150, true);
        for (String method : test.calls.keySet()) {
            int depth = test.depth(method, 0);
            Check.is(depth <= 8 ? "" : method + " goes " + depth + " deep", "");
        }
        Check.is(test.depth("ObservantYard.isAlike", 0) > 5, true);
        Check.is(test.depth("ObservantYard.countParts", 0), 2);
        Check.end();
    }
}
