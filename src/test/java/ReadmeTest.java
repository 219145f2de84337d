import java.nio.file.Files;
import java.nio.file.Path;
import java.util.Set;
import java.util.TreeSet;
import java.util.regex.Matcher;
import java.util.regex.Pattern;

/** Every call that README.md shows gets the answer that stands behind it, and every method is shown. */
public final class ReadmeTest {
    private static final Pattern NEW = Pattern.compile("EchoRow row = new EchoRow\\(\\);");
    private static final Pattern CALL = Pattern.compile("row\\.((\\w+)\\([^)]*\\)); +// (-?\\d+|[A-Z]+)(: .*)?");

    public static void main(String[] args) throws Exception {
        Set<String> shown = new TreeSet<>();
        EchoRow row = null;
        boolean inside = false;
        for (String line : Files.readAllLines(Path.of("README.md"))) {
            if (line.startsWith("```")) {
                inside = line.equals("```java");
            } else if (inside && NEW.matcher(line).matches()) {
                row = new EchoRow();
            } else if (inside) {
                Matcher call = CALL.matcher(line);
                if (!call.matches() || row == null) {
                    throw new IllegalArgumentException("neither a new object nor a call of it with an answer: " + line);
                }
                shown.add(call.group(2));
                Script.due("README.md", call.group(1), Script.on(row, call.group(1)), Script.number(call.group(3)));
            }
        }
        for (var method : EchoRow.class.getDeclaredMethods()) {
            boolean open = java.lang.reflect.Modifier.isPublic(method.getModifiers());
            Script.due("README.md shows each call", method.getName(), !open || shown.contains(method.getName()) ? 1 : 0, 1);
        }
        Script.end();
    }
}
