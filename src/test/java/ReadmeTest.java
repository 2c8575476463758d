import java.io.IOException;
import java.lang.reflect.Method;
import java.lang.reflect.Modifier;
import java.nio.file.Files;
import java.nio.file.Path;
import java.util.Set;
import java.util.TreeSet;
import java.util.regex.Matcher;
import java.util.regex.Pattern;

/** The example of README.md calls the whole face, and each call answers what stands behind it. */
public final class ReadmeTest {
    private static final Pattern CALL =
        Pattern.compile("x\\.(\\w+)\\(([^)]*)\\);\\s*// (?:(-?\\d+): )?.*");

    private final Checks checks = new Checks();
    private final TextPatterns x = new TextPatterns();
    private final Set<String> called = new TreeSet<>();

    public static void main(String[] args) throws IOException, ReflectiveOperationException {
        ReadmeTest test = new ReadmeTest();
        for (String line : Files.readAllLines(Path.of("README.md"))) {
            if (line.startsWith("x.")) {
                test.call(line);
            }
        }
        test.wholeFace();
        test.checks.end();
    }

    private void call(String line) throws ReflectiveOperationException {
        Matcher parts = CALL.matcher(line);
        if (!parts.matches()) {
            checks.due("a call with its answer: " + line, "none", "one");
            return;
        }
        Method method = methodOf(parts.group(1));
        Object answer = method.invoke(x, arguments(method, parts.group(2)));
        String told = parts.group(3) == null ? "null" : parts.group(3);
        checks.due(line, String.valueOf(answer), told);
        called.add(parts.group(1));
    }

    private static Method methodOf(String name) throws NoSuchMethodException {
        for (Method m : TextPatterns.class.getDeclaredMethods()) {
            if (m.getName().equals(name)) {
                return m;
            }
        }
        throw new NoSuchMethodException(name);
    }

    private static Object[] arguments(Method method, String written) {
        Class<?>[] types = method.getParameterTypes();
        String[] words = written.isEmpty() ? new String[0] : written.split(", ");
        Object[] values = new Object[words.length];
        for (int i = 0; i < words.length; i++) {
            long value = Long.decode(words[i].replace("L", ""));
            if (i < types.length && types[i] == long.class) {
                values[i] = value;
            } else {
                values[i] = (int) value;
            }
        }
        return values;
    }

    private void wholeFace() {
        Set<String> face = new TreeSet<>();
        for (Method m : TextPatterns.class.getDeclaredMethods()) {
            if (Modifier.isPublic(m.getModifiers())) {
                face.add(m.getName());
            }
        }
        checks.due("calls in README.md's example", called.toString(), face.toString());
    }
}
