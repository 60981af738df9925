import java.io.IOException;
import java.nio.file.Files;
import java.nio.file.Path;
import java.util.regex.Matcher;
import java.util.regex.Pattern;

/** Writes a source with other numbers for some of its constants: narrower ones, that tests reach. */
public final class Narrow {
    /** From which file, to which one, and then words such as FEW_PAIRS=2. */
    public static void main(String[] args) throws IOException {
        String source = Files.readString(Path.of(args[0]));
        for (int at = 2; at < args.length; at++) {
            String[] change = args[at].split("=");
            Matcher constant = Pattern.compile("( static final \\w+ " + change[0] + " = )[^;]+;").matcher(source);
            String changed = constant.replaceAll("$1" + change[1] + ";");
            if (changed.equals(source)) {
                throw new IllegalArgumentException("nothing changed by " + args[at]);
            }
            source = changed;
        }
        Files.createDirectories(Path.of(args[1]).getParent());
        Files.writeString(Path.of(args[1]), source);
    }
}
