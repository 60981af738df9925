import java.io.IOException;
import java.lang.reflect.Field;
import java.lang.reflect.Modifier;
import java.nio.file.Files;
import java.nio.file.Path;
import java.util.List;
import java.util.Map;
import java.util.regex.Matcher;
import java.util.regex.Pattern;

/** LANGUAGE.md, rules 2 to 7, 9, 10, 12 and 13, as far as the bytecode, the fields and the source tell them. */
public final class LanguageTest {
    private static final Path SOURCE = Path.of("src/main/java/ObservantYard.java");

    /** Of the list in rule 4 what is used here. */
    private static final Pattern LIBRARY = Pattern.compile("java/lang/Object\\.\"<init>\":\\(\\)V"
            + "|java/lang/System\\.arraycopy:.*"
            + "|java/lang/(Integer|Long|Math)\\.(compare|max|min|abs|bitCount|floorDiv|floorMod):\\([IJ]+\\)[IJ]"
            + "|java/util/Arrays\\.(fill|copyOf|copyOfRange):\\(\\[[BSCIJFD].*"
            + "|(java/lang/(IllegalState|IllegalArgument|IndexOutOfBounds|Arithmetic|UnsupportedOperation|Runtime)"
            + "|java/util/NoSuchElement)Exception\\.\"<init>\":\\((Ljava/lang/String;)?\\)V");
    private static final Pattern REFERENCE = Pattern.compile("// (?:Interface)?Method (java[^ ]*)");

    /** Rules 4 and 13: no other library, and so no clock, chance, file, network or thread. */
    private static void callsTheLibrary(String method, List<String> lines) {
        for (String line : lines) {
            Matcher reference = REFERENCE.matcher(line);
            if (reference.find() && !LIBRARY.matcher(reference.group(1)).matches()) {
                Check.is(method + " calls " + reference.group(1), "");
            }
        }
    }

    /** Rule 6: each throw makes its own exception; none stands in a constructor, and nothing is caught. */
    private static void throwsItsOwn(String method, List<String> lines) {
        for (int at = 0; at < lines.size(); at++) {
            if (lines.get(at).endsWith(": athrow")) {
                Check.is(method.endsWith(".<init>"), false);
                Check.is(lines.get(at - 1).contains("Exception.\"<init>\":"), true);
            }
            Check.is(lines.get(at).contains("Exception table"), false);
        }
    }

    /** Rules 2, 6 and 10: no lambda, no joining by +, no cast, no lock, no row of rows. */
    private static void doesWithout(String method, List<String> lines) {
        Pattern leftOut = Pattern.compile(": (invokedynamic|checkcast|instanceof|monitorenter|monitorexit|multianewarray)\\b");
        for (String line : lines) {
            Check.is(leftOut.matcher(line).find() ? method + ": " + line : "", "");
        }
    }

    /** Rule 7: whatever divides is a number that is written out, and none of them is 0. */
    private static void dividesByConstants(String method, List<String> lines) {
        for (int at = 0; at < lines.size(); at++) {
            if (lines.get(at).matches(".*: [il](div|rem)")) {
                Check.is(lines.get(at - 1).matches(".*: (iconst_|bipush +|sipush +)[1-9]\\d*"), true);
            }
        }
    }

    /** Rule 12: objects are made by constructors, a system beside them, and tables that grow. */
    private static void makesLittle(String method, List<String> lines) {
        boolean mayMake = method.endsWith(".<init>") || method.equals("ObservantYard.newNetwork")
                || method.equals("ObservantYard$SetTable.widen");
        for (String line : lines) {
            boolean makes = line.matches(".*: (newarray|anewarray)\\b.*")
                    || line.matches(".*: new\\b.*") && !line.endsWith("Exception")
                    || line.contains("java/util/Arrays.copyOf");
            Check.is(makes && !mayMake ? method + ": " + line : "", "");
        }
    }

    /** Rules 3 and 5. */
    private static void hasPlainFields(Class<?> each) {
        for (Field field : each.getDeclaredFields()) {
            Class<?> type = field.getType();
            if (Modifier.isStatic(field.getModifiers())) {
                Check.is(Modifier.isFinal(field.getModifiers()), true);
                Check.is(type == int.class || type == long.class, true);
            }
            Class<?> kind = type.isArray() ? type.getComponentType() : type;
            Check.is(kind.isPrimitive() || Bytecode.classes().contains(kind), true);
        }
    }

    /** Rule 2: static ones alone, without heirs and interfaces; rule 11: some twelve. */
    private static void hasPlainClasses() {
        Check.is(Bytecode.classes().size() <= 12, true);
        for (Class<?> each : Bytecode.classes()) {
            Check.is(Modifier.isFinal(each.getModifiers()), true);
            Check.is(each.getSuperclass(), Object.class);
            Check.is(each.getInterfaces().length, 0);
            Check.is(each == ObservantYard.class || Modifier.isStatic(each.getModifiers()), true);
            Check.is(each == ObservantYard.class || Modifier.isPrivate(each.getModifiers()), true);
            hasPlainFields(each);
        }
    }

    /** Rule 9: each loop is a for with a bound in its head, and its counter goes on there. */
    private static void hasBoundLoops() throws IOException {
        String source = Files.readString(SOURCE).replaceAll("(?s)/\\*.*?\\*/", "");
        Check.is(Pattern.compile("\\b(while|do)\\b").matcher(source).find(), false);
        Matcher loop = Pattern.compile("\\bfor \\((.*)\\) \\{").matcher(source);
        int loops = 0;
        while (loop.find()) {
            loops++;
            String[] parts = loop.group(1).split(";");
            Check.is(parts.length, 3);
            Check.is(parts[1].matches(".*\\w+ (<|<=|>|>=) .*") && parts[2].matches(" \\w+(\\+\\+|--)")
                    ? "" : loop.group(), "");
        }
        Check.is(loops > 100, true);
        Check.is(Pattern.compile("\\bfor \\([^{]*\n").matcher(source).find(), false);
    }

    public static void main(String[] args) throws IOException {
        Map<String, List<String>> methods = Bytecode.methods();
        Check.is(methods.size() > 150, true);
        for (Map.Entry<String, List<String>> each : methods.entrySet()) {
            callsTheLibrary(each.getKey(), each.getValue());
            throwsItsOwn(each.getKey(), each.getValue());
            doesWithout(each.getKey(), each.getValue());
            dividesByConstants(each.getKey(), each.getValue());
            makesLittle(each.getKey(), each.getValue());
        }
        hasPlainClasses();
        hasBoundLoops();
        Check.end();
    }
}
