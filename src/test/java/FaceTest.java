import java.io.IOException;
import java.lang.reflect.Constructor;
import java.lang.reflect.Field;
import java.lang.reflect.Method;
import java.lang.reflect.Modifier;
import java.nio.file.Files;
import java.nio.file.Path;
import java.util.TreeSet;
import java.util.regex.Matcher;
import java.util.regex.Pattern;

/** The class has the document's face and nothing else, and its source none of what LANGUAGE.md leaves out. */
public final class FaceTest {
    private static final Path SOURCE = Path.of("src/main/java/ObservantYard.java");
    private static final Path DOCUMENT = Path.of("../shared/DOC.md");

    private static TreeSet<String> facesInDocument() throws IOException {
        TreeSet<String> result = new TreeSet<>();
        Matcher face = Pattern.compile("    public (\\w+ \\w+)\\((.*?)\\)(?: throws (.*?))?;")
                .matcher(Files.readString(DOCUMENT));
        while (face.find()) {
            StringBuilder types = new StringBuilder();
            for (String parameter : face.group(2).split(", ")) {
                types.append(parameter.split(" ")[0]).append(' ');
            }
            TreeSet<String> thrown = new TreeSet<>();
            if (face.group(3) != null) {
                thrown.addAll(java.util.List.of(face.group(3).split(", ")));
            }
            result.add(face.group(1) + " (" + types.toString().strip() + ") " + thrown);
        }
        return result;
    }

    private static TreeSet<String> facesOfClass() {
        TreeSet<String> result = new TreeSet<>();
        for (Method method : ObservantYard.class.getDeclaredMethods()) {
            if (!Modifier.isPrivate(method.getModifiers())) {
                StringBuilder types = new StringBuilder();
                for (Class<?> type : method.getParameterTypes()) {
                    types.append(type.getSimpleName()).append(' ');
                }
                TreeSet<String> thrown = new TreeSet<>();
                for (Class<?> type : method.getExceptionTypes()) {
                    thrown.add(type.getSimpleName());
                }
                result.add(method.getReturnType().getSimpleName() + " " + method.getName() + " ("
                        + types.toString().strip() + ") " + thrown);
            }
        }
        return result;
    }

    private static void hasTheFace() throws IOException {
        Check.is(facesOfClass(), facesInDocument());
        Check.is(facesOfClass().size(), 42);
        Check.is(ObservantYard.class.getModifiers(), Modifier.PUBLIC | Modifier.FINAL);
        Constructor<?>[] constructors = ObservantYard.class.getDeclaredConstructors();
        Check.is(constructors.length, 1);
        Check.is(constructors[0].toString(), "public ObservantYard()");
        for (Field field : ObservantYard.class.getDeclaredFields()) {
            Check.is(Modifier.isPrivate(field.getModifiers()), true);
        }
        Check.is(ObservantYard.class.getPackageName(), "");
    }

    private static void reusesNoName() {
        TreeSet<String> names = new TreeSet<>();
        for (Method method : ObservantYard.class.getMethods()) {
            names.add(method.getName());
        }
        for (Class<?> inside : ObservantYard.class.getDeclaredClasses()) {
            Check.is(Modifier.isStatic(inside.getModifiers()), true);
            for (Method method : inside.getDeclaredMethods()) {
                Check.is(names.contains(method.getName()), false);
            }
        }
        for (Method method : ObservantYard.class.getDeclaredMethods()) {
            Check.is(Modifier.isPrivate(method.getModifiers()) && names.contains(method.getName()), false);
        }
        Check.is(ObservantYard.class.getDeclaredClasses().length < 12, true);
    }

    private static void keepsToTheLanguage() throws IOException {
        String source = Files.readString(SOURCE);
        String[] leftOut = {"->", "::", "\\bcatch\\b", "\\bfinally\\b", "\\bsynchronized\\b", "\\bassert\\b",
            "\\bpackage\\b", "Exact\\b", "Math\\.(?!max|min)", "\\bHash", "\\bMap\\b", "\\bSet\\b",
            "System\\.(?!arraycopy)", "[^\\x00-\\x7f]", "\\bstatic \\{", "import (?!java\\.util\\.(Arrays|NoSuchElementException);)",
            "\\bprotected\\b", "\\bObject\\b", "\\brecord\\b", "\\bvar\\b"};
        for (String pattern : leftOut) {
            Matcher found = Pattern.compile(pattern).matcher(source);
            Check.is(found.find() ? pattern + " at " + found.start() : "", "");
        }
    }

    /** From the head of each method to the bracket that closes it. */
    private static void keepsMethodsShort() throws IOException {
        String[] lines = Files.readString(SOURCE).split("\n");
        Pattern head = Pattern.compile("^(    |        )(?!for|if|while|switch|else)[a-zA-Z].*\\w\\(.*\\)( throws .*)?( \\{)?$");
        int methods = 0;
        for (int begin = 0; begin < lines.length; begin++) {
            Matcher found = head.matcher(lines[begin]);
            if (found.find()) {
                int end = begin + 1;
                while (end < lines.length && !lines[end].equals(found.group(1) + "}")) {
                    end++;
                }
                methods++;
                Check.is(end - begin < 60 ? "" : lines[begin] + " has " + (end - begin), "");
            }
        }
        Check.is(methods > 150, true);
    }

    public static void main(String[] args) throws IOException {
        hasTheFace();
        keepsMethodsShort();
        reusesNoName();
        keepsToTheLanguage();
        Check.end();
    }
}
