import java.io.PrintWriter;
import java.io.StringWriter;
import java.nio.file.Path;
import java.util.ArrayList;
import java.util.HashMap;
import java.util.List;
import java.util.Map;
import java.util.TreeMap;
import java.util.TreeSet;
import java.util.regex.Matcher;
import java.util.regex.Pattern;
import java.util.spi.ToolProvider;

/** Rule 11: calls go at most eight deep; and none calls itself, on whatever way (rule 8 would ask for a guard). */
public final class CallDepthTest {
    private static final int MOST = 8;
    private static final Pattern METHOD = Pattern.compile("  (?! )(?:[^(]* )?([\\w.$]+)\\(.*\\).*;");
    private static final Pattern CALL =
        Pattern.compile(".*: invoke.*// (?:Interface)?Method (?:([\\w$/]+)\\.)?\"?([\\w$<>]+)\"?:.*");
    private static final Map<String, TreeSet<String>> CALLS = new TreeMap<>();
    private static final Map<String, Integer> DEPTHS = new HashMap<>();

    public static void main(String[] args) throws Exception {
        if (ToolProvider.findFirst("javap").isEmpty()) {
            System.out.println("this Java does not show what a class calls");
            return;
        }
        List<Class<?>> all = new ArrayList<>(List.of(Rewinder.class.getDeclaredClasses()));
        all.add(Rewinder.class);
        for (Class<?> type : all) {
            read(type);
        }
        for (Class<?> type : all) {
            inherit(type);
        }
        Check.due("the calls were found", true, CALLS.size() > 100);
        int deepest = 0;
        for (String method : List.copyOf(CALLS.keySet())) {
            int depth = depth(method, new ArrayList<>());
            deepest = Math.max(deepest, depth);
            Check.due("11: how deep " + method + " goes: " + depth, true, depth <= MOST);
        }
        Check.due("the calls go deeper than one", true, deepest > 3);
        Check.finish();
    }

    private static void read(Class<?> type) throws Exception {
        Path classes = Path.of(Rewinder.class.getProtectionDomain().getCodeSource().getLocation().toURI());
        StringWriter text = new StringWriter();
        ToolProvider.findFirst("javap").orElseThrow().run(new PrintWriter(text), new PrintWriter(System.out),
            "-p", "-c", classes.resolve(type.getName() + ".class").toString());
        String method = "";
        for (String line : text.toString().split("\r?\n")) {
            Matcher head = METHOD.matcher(line);
            Matcher call = CALL.matcher(line);
            if (head.matches()) {
                String name = head.group(1).equals(type.getName()) ? "<init>" : head.group(1);
                method = type.getName() + "." + name;
                CALLS.computeIfAbsent(method, key -> new TreeSet<>());
            } else if (call.matches()) {
                String owner = call.group(1) == null ? type.getName() : call.group(1);
                if (owner.startsWith("Rewinder")) {
                    CALLS.get(method).add(owner + "." + call.group(2));
                }
            }
        }
    }

    /** A call of a method of the class above may come to that of the class below. */
    private static void inherit(Class<?> type) {
        Class<?> above = type.getSuperclass();
        for (String method : List.copyOf(CALLS.keySet())) {
            String name = method.substring(method.indexOf('.') + 1);
            String over = above.getName() + "." + name;
            if (method.startsWith(type.getName() + ".") && !name.equals("<init>") && CALLS.containsKey(over)) {
                CALLS.get(over).addAll(CALLS.get(method));
            }
        }
    }

    private static int depth(String method, List<String> open) {
        if (open.contains(method)) {
            Check.due("8: a method that calls itself", "", method + " " + open);
            return 0;
        }
        if (!DEPTHS.containsKey(method)) {
            open.add(method);
            int below = 0;
            for (String called : CALLS.getOrDefault(method, new TreeSet<>())) {
                below = Math.max(below, depth(called, open));
            }
            open.remove(method);
            DEPTHS.put(method, below + 1);
        }
        return DEPTHS.get(method);
    }
}
