import java.lang.reflect.Constructor;
import java.lang.reflect.Method;
import java.lang.reflect.Modifier;
import java.nio.file.Files;
import java.nio.file.Path;
import java.util.TreeSet;

/** The public face is that of the document. */
public final class FaceTest {
    public static void main(String[] args) throws Exception {
        TreeSet<String> due = new TreeSet<>();
        boolean inFace = false;
        for (String line : Files.readAllLines(Path.of("../shared/DOC.md"))) {
            if (line.startsWith("public final class")) {
                inFace = true;
            } else if (line.startsWith("}")) {
                inFace = false;
            } else if (inFace && line.trim().startsWith("public ")) {
                due.add(plain(line.trim().replace(";", "")));
            }
        }
        Check.due("the document has a face", true, due.size() > 50);

        TreeSet<String> got = new TreeSet<>();
        for (Constructor<?> c : Rewinder.class.getDeclaredConstructors()) {
            got.add(plain("public Rewinder(" + types(c.getParameterTypes()) + ")" + thrown(c.getExceptionTypes())));
            Check.due("the constructor is public", true, Modifier.isPublic(c.getModifiers()));
        }
        for (Method m : Rewinder.class.getDeclaredMethods()) {
            if (Modifier.isPublic(m.getModifiers())) {
                got.add(plain("public " + m.getReturnType().getSimpleName() + " " + m.getName() + "("
                    + types(m.getParameterTypes()) + ")" + thrown(m.getExceptionTypes())));
            } else {
                Check.due(m + " is private", true, Modifier.isPrivate(m.getModifiers()));
            }
        }
        Check.due("the face", due, got);
        Check.due("no public fields", 0, Rewinder.class.getFields().length);
        Check.due("the class is final", true, Modifier.isFinal(Rewinder.class.getModifiers()));

        for (Class<?> inside : Rewinder.class.getDeclaredClasses()) {
            Check.due(inside + " is for the class alone", false,
                Modifier.isPublic(inside.getModifiers()) || Modifier.isProtected(inside.getModifiers()));
        }
        Check.finish();
    }

    private static String types(Class<?>[] types) {
        StringBuilder text = new StringBuilder();
        for (Class<?> type : types) {
            text.append(text.length() == 0 ? "" : ", ").append(type.getSimpleName());
        }
        return text.toString();
    }

    private static String thrown(Class<?>[] types) {
        return types.length == 0 ? "" : " throws " + types(types);
    }

    /** A signature without the names of its parameters. */
    private static String plain(String text) {
        return text.replaceAll("\\b(int|char) [a-z]+(?=[,)])", "$1");
    }
}
