import java.io.PrintWriter;
import java.io.StringWriter;
import java.util.ArrayList;
import java.util.LinkedHashMap;
import java.util.List;
import java.util.Map;
import java.util.regex.Matcher;
import java.util.regex.Pattern;
import java.util.spi.ToolProvider;

/** What javap tells of the class and of those inside it: for each method, such as ObservantYard$Seats.take, its lines. */
final class Bytecode {
    private static final Pattern HEAD = Pattern.compile("^  (?:[\\w.\\[\\]<>$]+ )*([\\w$.<>]+)\\(.*\\)(?: throws .*)?;$");

    private Bytecode() {
    }

    static List<Class<?>> classes() {
        List<Class<?>> result = new ArrayList<>();
        result.add(ObservantYard.class);
        result.addAll(List.of(ObservantYard.class.getDeclaredClasses()));
        return result;
    }

    /** Of methods with like names the lines stand together; a constructor is named by its class. */
    static Map<String, List<String>> methods() {
        Map<String, List<String>> result = new LinkedHashMap<>();
        for (Class<?> each : classes()) {
            List<String> lines = new ArrayList<>();
            for (String line : disassembled(each.getName()).split("\n")) {
                Matcher head = HEAD.matcher(line);
                if (head.find()) {
                    boolean isConstructor = head.group(1).equals(each.getName());
                    String method = each.getName() + "." + (isConstructor ? "<init>" : head.group(1));
                    lines = result.computeIfAbsent(method, name -> new ArrayList<>());
                } else {
                    lines.add(line.strip());
                }
            }
        }
        return result;
    }

    private static String disassembled(String name) {
        StringWriter told = new StringWriter();
        PrintWriter writer = new PrintWriter(told);
        ToolProvider javap = ToolProvider.findFirst("javap").orElseThrow();
        Check.is(javap.run(writer, writer, "-c", "-p", "-cp", System.getProperty("java.class.path"), name), 0);
        return told.toString();
    }
}
