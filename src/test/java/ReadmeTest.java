import java.io.IOException;
import java.lang.reflect.Method;
import java.lang.reflect.Modifier;
import java.nio.file.Files;
import java.nio.file.Path;
import java.util.Set;
import java.util.TreeSet;
import java.util.regex.Matcher;
import java.util.regex.Pattern;

/** Makes the calls of the example in README.md, and looks at the answers that it tells. */
public final class ReadmeTest {
    private static final Checks CHECKS = new Checks();
    private static final Pattern EXAMPLE = Pattern.compile("(?s)```java\n(.*?)```");
    private static final Pattern CALL = Pattern.compile("game\\.(\\w+)\\((.*?)\\); *// (-?[0-9.]+)(:.*)?");
    private static final String MAKING = "ConkerHeirs game = new ConkerHeirs();";

    public static void main(String[] args) throws IOException, ReflectiveOperationException {
        Matcher example = EXAMPLE.matcher(Files.readString(Path.of("README.md")));
        CHECKS.holds("README.md has an example", example.find());
        String[] lines = example.group(1).split("\n");
        CHECKS.holds("it begins with an object", lines[0].equals(MAKING));
        ConkerHeirs game = new ConkerHeirs();
        Set<String> called = new TreeSet<>();
        for (int i = 1; i < lines.length; i++) {
            Matcher call = CALL.matcher(lines[i]);
            if (call.matches()) {
                called.add(call.group(1));
                CHECKS.due(lines[i], Double.parseDouble(call.group(3)), answer(game, call.group(1), call.group(2)));
            } else {
                CHECKS.holds("a call with its answer: " + lines[i], lines[i].isEmpty());
            }
        }
        Set<String> unused = publicNames();
        unused.removeAll(called);
        CHECKS.holds("the example leaves out " + unused, unused.isEmpty());
        CHECKS.close("ReadmeTest");
    }

    private static Set<String> publicNames() {
        Set<String> names = new TreeSet<>();
        for (Method method : ConkerHeirs.class.getDeclaredMethods()) {
            if (Modifier.isPublic(method.getModifiers())) {
                names.add(method.getName());
            }
        }
        return names;
    }

    private static double answer(ConkerHeirs game, String name, String arguments)
            throws ReflectiveOperationException {
        String[] parts = arguments.isEmpty() ? new String[0] : arguments.split(", ");
        Class<?>[] types = new Class<?>[parts.length];
        Object[] values = new Object[parts.length];
        for (int i = 0; i < parts.length; i++) {
            types[i] = int.class;
            values[i] = parts[i].startsWith("'") ? (int) parts[i].charAt(1) : Integer.parseInt(parts[i]);
        }
        return ((Number) ConkerHeirs.class.getMethod(name, types).invoke(game, values)).doubleValue();
    }
}
