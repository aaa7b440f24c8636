import java.lang.reflect.InvocationTargetException;
import java.lang.reflect.Method;
import java.lang.reflect.Modifier;
import java.util.ArrayList;
import java.util.Comparator;
import java.util.List;
import java.util.Random;

/** No call throws anything but what its own signature tells, with any numbers, and the machine itself never does. */
public final class AnyCallTest {
    private static final int USED = 512;
    private static final int[] EDGES = {-1, 0, 1, 2, 3, 4, 8, 39, 40, 41, 60, 63, 64, 99, 400, 401, 511, 512, 513,
        999, 1000, Integer.MAX_VALUE, Integer.MIN_VALUE};
    private static final List<Class<?>> OF_THE_MACHINE = List.of(ArrayIndexOutOfBoundsException.class,
        NullPointerException.class, ClassCastException.class, NegativeArraySizeException.class,
        ArrayStoreException.class, StackOverflowError.class, OutOfMemoryError.class);

    public static void main(String[] args) throws IllegalAccessException {
        List<Method> face = new ArrayList<>();
        for (Method method : Rewinder.class.getDeclaredMethods()) {
            if (Modifier.isPublic(method.getModifiers())) {
                face.add(method);
            }
        }
        face.sort(Comparator.comparing(Method::getName));
        for (int seed = 1; seed <= 200; seed++) {
            play(face, new Random(seed), seed % 8 == 0 ? 3000 : USED - 20);
        }
        manyEvents();
        Check.finish();
    }

    private static void play(List<Method> face, Random random, int most) throws IllegalAccessException {
        Rewinder x = Check.machine(Check.LOOP + "; c 0 1; i 0; o 0; y; t 1");
        x.setSecond(random.nextInt(9));
        for (int i = 0; i < most; i++) {
            Method method = face.get(random.nextInt(face.size()));
            // A begin all the time would leave nothing to look at.
            if (!method.getName().equals("begin") || random.nextInt(20) == 0 || i < 5) {
                call(method, x, random, most <= USED);
            }
        }
    }

    /** Behind the 512th call all is free, but the machine itself must not throw there, either. */
    private static void call(Method method, Rewinder x, Random random, boolean promised)
            throws IllegalAccessException {
        Object[] args = new Object[method.getParameterCount()];
        for (int i = 0; i < args.length; i++) {
            int number = random.nextInt(3) == 0 ? EDGES[random.nextInt(EDGES.length)] : random.nextInt(10);
            boolean letter = method.getParameterTypes()[i] == char.class;
            args[i] = letter ? (Object) "k+-*<lsjcrioty?".charAt(random.nextInt(15)) : (Object) number;
        }
        try {
            method.invoke(x, args);
        } catch (InvocationTargetException e) {
            Class<?> thrown = e.getCause().getClass();
            boolean told = List.of(method.getExceptionTypes()).contains(thrown);
            Check.due(method.getName() + " may throw " + e.getCause(), true,
                promised ? told : !OF_THE_MACHINE.contains(thrown));
        }
    }

    private static void manyEvents() {
        Rewinder x = Check.loop(10);
        for (int i = 1; i <= 490; i++) {
            x.feed(i);
        }
        Check.due("all are kept", 490, x.events());
        Check.due("all are in the console", 490, x.console());
        Check.due("the run goes on", 20, x.forward(10));
        Check.due("it is sound", true, x.isSound());
        x.back(20);
        Check.due("ahead of them", 0, x.console());
        x.select(0);
        Check.due("behind them", 490, x.console());
        for (int i = 0; i < 2000; i++) {
            quietly(x);
        }
    }

    private static void quietly(Rewinder x) {
        try {
            x.feed(1);
            x.change(1, 2);
        } catch (RuntimeException e) {
            Check.due("far behind the last call: " + e, false, OF_THE_MACHINE.contains(e.getClass()));
        }
    }
}
