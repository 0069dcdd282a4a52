import java.io.IOException;
import java.lang.reflect.Method;
import java.nio.file.Files;
import java.nio.file.Path;
import java.util.Set;
import java.util.TreeSet;
import java.util.regex.Matcher;
import java.util.regex.Pattern;

/** Runs the examples of README.md: each call's answer must be the one that stands behind it. */
public final class ReadmeTest {
    private static final Pattern NEW = Pattern.compile("JarMinutes x = new JarMinutes\\(\\);");
    private static final Pattern CALL = Pattern.compile("x\\.(\\w+)\\(([^)]*)\\);\\s+// (-?\\d+)(\\s.*)?");

    public static void main(String[] args) throws IOException, ReflectiveOperationException {
        String page = Files.readString(Path.of("README.md"));
        Set<String> shown = new TreeSet<>();
        JarMinutes x = null;
        boolean inJava = false;
        for (String line : page.split("\n")) {
            if (line.startsWith("```")) {
                inJava = line.equals("```java");
            } else if (inJava && NEW.matcher(line).matches()) {
                x = new JarMinutes();
            } else if (inJava) {
                example(x, line, shown);
            }
        }
        Due.holds("README.md shows calls " + shown, shown.size() >= 25);
        constants(page);
        Due.end();
    }

    private static void example(JarMinutes x, String line, Set<String> shown) throws ReflectiveOperationException {
        Matcher m = CALL.matcher(line);
        if (!m.matches() || x == null) {
            Due.holds("README.md: an example is a call and its answer: " + line, false);
            return;
        }
        shown.add(m.group(1));
        Due.due("README.md: " + line, answer(x, m.group(1), m.group(2)), Long.parseLong(m.group(3)));
    }

    private static long answer(JarMinutes x, String name, String told) throws ReflectiveOperationException {
        String[] parts = told.isEmpty() ? new String[0] : told.split(", ");
        for (Method method : JarMinutes.class.getMethods()) {
            if (method.getName().equals(name) && method.getParameterCount() == parts.length) {
                Object[] numbers = new Object[parts.length];
                for (int i = 0; i < parts.length; i++) {
                    long v = Long.decode(parts[i].replace("L", ""));
                    numbers[i] = method.getParameterTypes()[i] == long.class ? (Object) v : (Object) (int) v;
                }
                return ((Number) method.invoke(x, numbers)).longValue();
            }
        }
        throw new NoSuchMethodException(name);
    }

    /** The table of refusals tells each constant with its number. */
    private static void constants(String page) throws ReflectiveOperationException {
        for (String name : new String[] {"BAD", "NOT", "FULL", "NONE", "NULL", "CAST", "INDEX", "SIZE"}) {
            int v = JarMinutes.class.getField(name).getInt(null);
            Due.holds("README.md: " + name, page.contains("| " + v + " | " + name + " |"));
        }
    }
}
