import java.io.PrintWriter;
import java.io.StringWriter;
import java.lang.reflect.Field;
import java.lang.reflect.Method;
import java.lang.reflect.Modifier;
import java.util.HashMap;
import java.util.Map;
import java.util.TreeSet;
import java.util.regex.Matcher;
import java.util.regex.Pattern;
import java.util.spi.ToolProvider;

/** LANGUAGE.md, rules 8 and 11: how deep calls go, and how large classes and methods' heads are. */
public final class DepthTest {
    private static final Pattern HEAD = Pattern.compile("^  (?:[\\w.\\[\\]<>$]+ )*([\\w$.<>]+)\\(.*\\)(?: throws .*)?;$");
    private static final Pattern CALL = Pattern.compile("// (?:Interface)?Method (?:([\\w$]+)\\.)?\"?([\\w$<>]+)\"?:");

    /** For each method, such as ObservantYard$Seats.take, the own ones that it calls. */
    private final Map<String, TreeSet<String>> calls = new HashMap<>();
    private final Map<String, Integer> depths = new HashMap<>();

    private static String disassembled(String name) {
        StringWriter told = new StringWriter();
        PrintWriter writer = new PrintWriter(told);
        ToolProvider javap = ToolProvider.findFirst("javap").orElseThrow();
        Check.is(javap.run(writer, writer, "-c", "-p", "-cp", System.getProperty("java.class.path"), name), 0);
        return told.toString();
    }

    private void read(String name) {
        String method = "";
        for (String line : disassembled(name).split("\n")) {
            Matcher head = HEAD.matcher(line);
            Matcher call = CALL.matcher(line);
            if (head.find()) {
                method = name + "." + (head.group(1).equals(name) ? "<init>" : head.group(1));
                calls.putIfAbsent(method, new TreeSet<>());
            } else if (call.find()) {
                String owner = call.group(1) == null ? name : call.group(1);
                if (owner.startsWith("ObservantYard")) {
                    calls.get(method).add(owner + "." + call.group(2));
                }
            }
        }
    }

    /** A call that leads back to itself would go on for ever here. */
    private int depth(String method, int open) {
        if (open > 50) {
            return open;
        }
        Integer known = depths.get(method);
        if (known == null) {
            known = 1;
            for (String called : calls.getOrDefault(method, new TreeSet<>())) {
                known = Math.max(known, 1 + depth(called, open + 1));
            }
            depths.put(method, known);
        }
        return known;
    }

    private static void sizes(Class<?> each) {
        int fields = 0;
        for (Field field : each.getDeclaredFields()) {
            fields += Modifier.isStatic(field.getModifiers()) ? 0 : 1;
        }
        Check.is(fields <= 20 ? "" : each + " has " + fields, "");
        for (Method method : each.getDeclaredMethods()) {
            Check.is(method.getParameterCount() <= 7, true);
        }
    }

    public static void main(String[] args) {
        DepthTest test = new DepthTest();
        test.read("ObservantYard");
        sizes(ObservantYard.class);
        for (Class<?> each : ObservantYard.class.getDeclaredClasses()) {
            test.read(each.getName());
            sizes(each);
        }
        Check.is(test.calls.size() > 150, true);
        for (Method method : ObservantYard.class.getDeclaredMethods()) {
            int depth = test.depth("ObservantYard." + method.getName(), 0);
            Check.is(depth <= 8 ? "" : method.getName() + " goes " + depth + " deep", "");
        }
        Check.is(test.depth("ObservantYard.isAlike", 0) > 5, true);
        Check.is(test.depth("ObservantYard.countParts", 0), 2);
        Check.end();
    }
}
