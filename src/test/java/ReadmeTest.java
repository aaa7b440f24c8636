import java.io.IOException;
import java.lang.reflect.InvocationTargetException;
import java.lang.reflect.Method;
import java.nio.file.Files;
import java.nio.file.Path;
import java.util.ArrayList;
import java.util.HashSet;
import java.util.List;
import java.util.Set;
import java.util.regex.Matcher;
import java.util.regex.Pattern;

/** The calls of README.md, done one behind the other on one object, have the answers that it tells. */
public final class ReadmeTest {
    private static final Pattern CALL = Pattern.compile("machine\\.(\\w+)\\((.*)\\);\\s+// (throws \\w+|[^ ,]+)(,.*)?");
    private static final Set<String> CALLED = new HashSet<>();

    public static void main(String[] args) throws IOException, IllegalAccessException {
        String text = Files.readString(Path.of("README.md"));
        Rewinder machine = null;
        for (String line : example(text)) {
            if (line.equals("Rewinder machine = new Rewinder();")) {
                machine = new Rewinder();
            } else if (!line.isEmpty()) {
                Matcher call = CALL.matcher(line);
                boolean fits = machine != null && call.matches();
                Check.due("a call with its answer: " + line, true, fits);
                if (fits) {
                    Check.due("README.md: " + line, call.group(3), answer(machine, call.group(1), call.group(2)));
                }
            }
        }
        for (String name : List.of("add", "setSecond", "begin", "forward", "back", "go", "branch", "select",
            "difference")) {
            Check.due("README.md shows " + name, true, CALLED.contains(name));
        }
        Check.due("README.md tells how the tests are run", true, text.contains("`.ci/run`"));
        Check.finish();
    }

    /** The lines between the marks of Java code. */
    private static List<String> example(String text) {
        List<String> found = new ArrayList<>();
        boolean inside = false;
        for (String line : text.split("\n")) {
            if (line.startsWith("```")) {
                inside = line.equals("```java");
            } else if (inside) {
                found.add(line.trim());
            }
        }
        return found;
    }

    private static String answer(Rewinder machine, String name, String numbers) throws IllegalAccessException {
        CALLED.add(name);
        for (Method method : Rewinder.class.getMethods()) {
            if (method.getName().equals(name)) {
                try {
                    return String.valueOf(method.invoke(machine, arguments(numbers)));
                } catch (InvocationTargetException e) {
                    return "throws " + e.getCause().getClass().getSimpleName();
                }
            }
        }
        return "no such method";
    }

    private static Object[] arguments(String numbers) {
        if (numbers.isEmpty()) {
            return new Object[0];
        }
        String[] parts = numbers.split(", ");
        Object[] arguments = new Object[parts.length];
        for (int i = 0; i < parts.length; i++) {
            boolean letter = parts[i].startsWith("'");
            arguments[i] = letter ? (Object) parts[i].charAt(1) : (Object) Integer.valueOf(parts[i]);
        }
        return arguments;
    }
}
