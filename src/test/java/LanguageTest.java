import java.io.IOException;
import java.lang.reflect.Executable;
import java.lang.reflect.Field;
import java.lang.reflect.Method;
import java.lang.reflect.Modifier;
import java.nio.file.Files;
import java.nio.file.Path;
import java.util.ArrayList;
import java.util.HashSet;
import java.util.List;
import java.util.Set;
import java.util.regex.Matcher;
import java.util.regex.Pattern;

/** The source keeps to the rules of LANGUAGE.md, as far as its text and its classes tell; the numbers are theirs. */
public final class LanguageTest {
    private static final Set<String> LIBRARY = Set.of("String", "StringBuilder", "Integer", "Long", "Math", "System",
        "Arrays", "ArrayList", "List", "Iterator", "Iterable", "Comparable", "Override");
    private static final Set<String> EXCEPTIONS = Set.of("IllegalStateException", "IllegalArgumentException",
        "IndexOutOfBoundsException", "ArithmeticException", "UnsupportedOperationException",
        "NoSuchElementException", "RuntimeException");
    private static final Set<Class<?>> NUMBERS = Set.of(int.class, long.class, short.class, byte.class, char.class,
        boolean.class, double.class, float.class);
    private static final List<Class<?>> CLASSES = new ArrayList<>();

    public static void main(String[] args) throws IOException {
        CLASSES.add(Rewinder.class);
        CLASSES.addAll(List.of(Rewinder.class.getDeclaredClasses()));
        String source = Files.readString(Path.of("src/main/java/Rewinder.java"));
        String code = codeOf(source);
        names();
        types();
        words(code);
        library(code);
        statics(code);
        exceptions(source, code);
        sizes(code);
        Check.finish();
    }

    /** The source without its comments, with texts and signs left empty. */
    private static String codeOf(String source) {
        String bare = source.replaceAll("(?s)/\\*.*?\\*/", "").replaceAll("//[^\n]*", "");
        return bare.replaceAll("\"[^\"\n]*\"", "\"\"").replaceAll("'[^'\n]'", "' '");
    }

    private static void none(String what, String code, String pattern) {
        Matcher found = Pattern.compile(pattern).matcher(code);
        Check.due(what, "", found.find() ? found.group() : "");
    }

    private static void names() {
        Set<String> face = new HashSet<>();
        for (Method method : Rewinder.class.getMethods()) {
            if (method.getDeclaringClass() == Rewinder.class) {
                face.add(method.getName());
            }
        }
        for (Class<?> type : CLASSES) {
            boolean inside = type != Rewinder.class;
            Check.due("1: " + type + " is static", inside, Modifier.isStatic(type.getModifiers()));
            Check.due("2: " + type + " holds no class", inside ? 0 : CLASSES.size() - 1,
                type.getDeclaredClasses().length);
            for (Method method : type.getDeclaredMethods()) {
                boolean shown = Modifier.isPublic(method.getModifiers());
                Check.due("1: the name of " + method, shown, face.contains(method.getName()));
            }
        }
    }

    private static void types() {
        for (Class<?> type : CLASSES) {
            for (Field field : type.getDeclaredFields()) {
                Check.due("3: the type of " + field, true, isAllowed(field.getType()));
            }
            for (Executable method : methods(type)) {
                for (Class<?> parameter : method.getParameterTypes()) {
                    Check.due("3: a parameter of " + method, true, isAllowed(parameter));
                }
            }
            for (Method method : type.getDeclaredMethods()) {
                boolean none = method.getReturnType() == void.class;
                Check.due("3: what " + method + " returns", true, none || isAllowed(method.getReturnType()));
            }
        }
    }

    private static List<Executable> methods(Class<?> type) {
        List<Executable> all = new ArrayList<>(List.of(type.getDeclaredMethods()));
        all.addAll(List.of(type.getDeclaredConstructors()));
        return all;
    }

    private static boolean isAllowed(Class<?> type) {
        if (type.isArray()) {
            Class<?> item = type.getComponentType();
            return item.isArray() ? NUMBERS.contains(item.getComponentType())
                : NUMBERS.contains(item) || CLASSES.contains(item);
        }
        return NUMBERS.contains(type) || CLASSES.contains(type) || LIBRARY.contains(type.getSimpleName());
    }

    private static void words(String code) {
        none("1: a package", code, "\\bpackage\\b");
        none("3: a function or a method reference", code, "->|::");
        none("6: a word that is ruled out", code, "\\b(finally|synchronized|assert|var|sealed|native|volatile)\\b");
        none("6: a method that all objects have", code, "\\b(hashCode|toString|equals|finalize|getClass) *\\(");
        none("9: a loop without an end", code, "for \\(;;|while \\(true\\)|for \\([^;]*; *;");
        none("10: texts joined by +", code, "\"\" *\\+|\\+ *\"\"");
        none("3: a sign outside of 1 to 127", code, "[^\\x01-\\x7f]");
    }

    private static void library(String code) {
        Set<String> own = new HashSet<>(LIBRARY);
        own.addAll(EXCEPTIONS);
        for (Class<?> type : CLASSES) {
            own.add(type.getSimpleName());
        }
        Matcher word = Pattern.compile("\\b[A-Z][a-z]\\w*").matcher(code);
        while (word.find()) {
            Check.due("4: " + word.group() + " stands in the rules", true, own.contains(word.group()));
        }
        none("4: of System only arraycopy", code, "\\bSystem\\.(?!arraycopy\\()\\w+");
        none("4: of Arrays only these", code, "\\bArrays\\.(?!copyOf\\(|copyOfRange\\(|fill\\()\\w+");
        none("4: nothing exact", code, "\\b\\w+Exact\\(");
        none("4: a library that the rules do not name", code,
            "import (?!java\\.util\\.(NoSuchElementException|ArrayList|List|Arrays|Iterator);)[^;]*;");
    }

    private static void statics(String code) {
        none("5: a static initialiser", code, "\\bstatic *\\{");
        for (Class<?> type : CLASSES) {
            for (Field field : type.getDeclaredFields()) {
                if (Modifier.isStatic(field.getModifiers())) {
                    Check.due("5: " + field + " is final", true, Modifier.isFinal(field.getModifiers()));
                    Class<?> item = field.getType().isArray() ? field.getType().getComponentType() : field.getType();
                    Check.due("5: the type of " + field, true, NUMBERS.contains(item) || item == String.class);
                }
            }
        }
    }

    private static void exceptions(String source, String code) {
        int thrown = 0;
        Matcher exception = Pattern.compile("\\bthrow new (\\w+)\\((\"\")?\\);").matcher(code);
        while (exception.find()) {
            thrown++;
            Check.due("6: " + exception.group() + " is allowed", true, EXCEPTIONS.contains(exception.group(1)));
        }
        Check.due("6: each throw makes one of these", code.split("\\bthrow\\b", -1).length - 1, thrown);
        Check.due("6: some are thrown", true, thrown > 0);
        none("6: what the machine throws is not caught", source,
            "catch \\((Throwable|Error|Exception|ArrayIndexOutOf\\w+|NullPointer\\w+|ClassCast\\w+|NegativeArray\\w+"
                + "|ArrayStore\\w+|ArithmeticException|IndexOutOf\\w+|RuntimeException)\\b");
        Matcher made = Pattern.compile("\n( +)(public )?[A-Z]\\w*\\([^)]*\\) \\{\n.*?\n\\1\\}", Pattern.DOTALL)
            .matcher(code);
        while (made.find()) {
            none("6: a constructor throws", made.group(), "\\bthrow\\b");
        }
    }

    private static void sizes(String code) {
        Check.due("11: some twelve classes at most", true, CLASSES.size() <= 13);
        for (Class<?> type : CLASSES) {
            int fields = 0;
            for (Field field : type.getDeclaredFields()) {
                fields += Modifier.isStatic(field.getModifiers()) ? 0 : 1;
            }
            Check.due("11: some twenty fields in " + type, true, fields <= 20);
            for (Executable method : methods(type)) {
                Check.due("11: seven parameters of " + method, true, method.getParameterCount() <= 7);
            }
        }
        Matcher method = Pattern.compile("\n( +)[^\n=]*\\) *(throws [^{]*)?\\{\n(.*?)\n\\1\\}\n", Pattern.DOTALL)
            .matcher(code);
        int found = 0;
        while (method.find()) {
            found++;
            String name = method.group().trim().split("\n")[0];
            Check.due("11: some sixty lines of " + name, true, method.group(3).split("\n").length <= 60);
        }
        Check.due("11: its methods were found", true, found > 100);
    }
}
