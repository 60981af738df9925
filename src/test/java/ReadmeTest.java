import java.io.IOException;
import java.lang.reflect.InvocationTargetException;
import java.lang.reflect.Method;
import java.nio.file.Files;
import java.nio.file.Path;
import java.util.regex.Matcher;
import java.util.regex.Pattern;

/** The run of calls in README.md: each answers, or throws, what stands behind it. */
public final class ReadmeTest {
    private static final Pattern CALL = Pattern.compile("yard\\.(\\w+)\\((.*)\\); +// (= (-?\\w+)|throws (\\w+))(:.*)?");

    private static Object argument(String text) {
        if (text.startsWith("'")) {
            return text.charAt(1);
        }
        return text.equals("true") || text.equals("false") ? (Object) Boolean.valueOf(text) : Integer.valueOf(text);
    }

    private static String answer(ObservantYard yard, String name, String arguments) throws IllegalAccessException {
        String[] texts = arguments.isEmpty() ? new String[0] : arguments.split(", ");
        Object[] values = new Object[texts.length];
        for (int at = 0; at < texts.length; at++) {
            values[at] = argument(texts[at]);
        }
        for (Method method : ObservantYard.class.getMethods()) {
            if (method.getName().equals(name)) {
                try {
                    return "= " + method.invoke(yard, values);
                } catch (InvocationTargetException e) {
                    return "throws " + e.getCause().getClass().getSimpleName();
                }
            }
        }
        return "no such call";
    }

    public static void main(String[] args) throws IOException, IllegalAccessException {
        String text = Files.readString(Path.of("README.md"));
        int begin = text.indexOf("```java\n");
        String[] lines = text.substring(begin, text.indexOf("```\n", begin)).split("\n");
        Check.is(lines[1], "ObservantYard yard = new ObservantYard();");
        ObservantYard yard = new ObservantYard();
        for (int at = 2; at < lines.length; at++) {
            Matcher call = CALL.matcher(lines[at]);
            if (call.matches()) {
                Check.is(answer(yard, call.group(1), call.group(2)), call.group(3));
            } else {
                Check.is(lines[at].isEmpty() || lines[at].startsWith("// ") ? "" : lines[at], "");
            }
        }
        Check.is(lines.length > 30, true);
        Check.end();
    }
}
