import java.lang.reflect.InvocationTargetException;
import java.lang.reflect.Method;
import java.lang.reflect.Modifier;
import java.util.ArrayList;
import java.util.Comparator;
import java.util.List;
import java.util.Random;

/** No call throws anything but what its own signature tells, with any numbers, also far behind the 512th call. */
public final class AnyCallTest {
    private static final int[] EDGES = {-1, 0, 1, 2, 3, 4, 8, 39, 40, 41, 60, 63, 64, 99, 400, 401, 511, 512, 513,
        999, 1000, Integer.MAX_VALUE, Integer.MIN_VALUE};

    public static void main(String[] args) throws IllegalAccessException {
        List<Method> face = new ArrayList<>();
        for (Method method : Rewinder.class.getDeclaredMethods()) {
            if (Modifier.isPublic(method.getModifiers())) {
                face.add(method);
            }
        }
        face.sort(Comparator.comparing(Method::getName));
        for (int seed = 1; seed <= 40; seed++) {
            Random random = new Random(seed);
            Rewinder x = Check.machine(Check.LOOP + "; c 0 1; i 0; o 0; y; t 1");
            x.setSecond(random.nextInt(9));
            for (int i = 0; i < 3000; i++) {
                Method method = face.get(random.nextInt(face.size()));
                // A begin all the time would leave nothing to look at.
                if (!method.getName().equals("begin") || random.nextInt(20) == 0 || i < 5) {
                    call(method, x, random);
                }
            }
        }
        manyEvents();
        Check.finish();
    }

    private static void call(Method method, Rewinder x, Random random) throws IllegalAccessException {
        Object[] args = new Object[method.getParameterCount()];
        for (int i = 0; i < args.length; i++) {
            int number = random.nextInt(3) == 0 ? EDGES[random.nextInt(EDGES.length)] : random.nextInt(10);
            boolean letter = method.getParameterTypes()[i] == char.class;
            args[i] = letter ? (Object) "k+-*<lsjcrioty?".charAt(random.nextInt(15)) : (Object) number;
        }
        try {
            method.invoke(x, args);
        } catch (InvocationTargetException e) {
            boolean told = List.of(method.getExceptionTypes()).contains(e.getCause().getClass());
            Check.due(method.getName() + " may throw " + e.getCause(), true, told);
        }
    }

    private static void manyEvents() {
        Rewinder x = Check.loop(10);
        for (int i = 0; i < 2000; i++) {
            x.feed(i);
            x.change(1, i);
        }
        Check.due("the log ends somewhere", true, x.events() >= 512);
        Check.due("and the run goes on", 20, x.forward(10));
        Check.due("and is sound", true, x.isSound());
    }
}
