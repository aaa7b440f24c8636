import java.util.Objects;

/** Counts what is not as due; a test ends with exit code 1 if there was something. */
final class Check {
    private static int done = 0;
    private static int wrong = 0;

    private Check() {
    }

    interface Call {
        Object answer();
    }

    static void due(String what, Object want, Object got) {
        done++;
        if (!Objects.equals(want, got)) {
            wrong++;
            System.out.println(what + ": answered " + got + ", due is " + want);
        }
    }

    /** The call throws exactly this exception. */
    static void refused(String what, Class<?> want, Call call) {
        done++;
        String got;
        try {
            got = "answered " + call.answer();
        } catch (RuntimeException e) {
            if (e.getClass() == want) {
                return;
            }
            got = "threw " + e;
        }
        wrong++;
        System.out.println(what + ": " + got + ", due is " + want.getSimpleName());
    }

    static void state(String what, Call call) {
        refused(what, IllegalStateException.class, call);
    }

    static void argument(String what, Call call) {
        refused(what, IllegalArgumentException.class, call);
    }

    static void index(String what, Call call) {
        refused(what, IndexOutOfBoundsException.class, call);
    }

    static void unsupported(String what, Call call) {
        refused(what, UnsupportedOperationException.class, call);
    }

    static void noElement(String what, Call call) {
        refused(what, java.util.NoSuchElementException.class, call);
    }

    static void arithmetic(String what, Call call) {
        refused(what, ArithmeticException.class, call);
    }

    static void finish() {
        System.out.println(done + " answers looked at, " + wrong + " not as due");
        if (wrong != 0) {
            System.exit(1);
        }
    }

    /** A machine with code written as "k 0 5; s 0 1; r"; numbers that are left away are 0. */
    static Rewinder machine(String code) {
        Rewinder made = new Rewinder();
        for (String part : code.split(";")) {
            String[] words = part.trim().split(" +");
            int[] n = new int[3];
            for (int i = 1; i < words.length; i++) {
                n[i - 1] = Integer.parseInt(words[i]);
            }
            made.add(words[0].charAt(0), n[0], n[1], n[2]);
        }
        return made;
    }

    static Rewinder begun(String code) {
        Rewinder made = machine(code);
        made.begin();
        return made;
    }

    static Rewinder begun(String code, int second) {
        Rewinder made = machine(code);
        made.setSecond(second);
        made.begin();
        return made;
    }

    /** Runs forever: the step 3n sets the cell n to n; at the moment n it is at the place 1 + (n - 1) % 3. */
    static final String LOOP = "k 2 1; + 1 1 2; s 1 1; j 2 1";

    static Rewinder loop(int steps) {
        Rewinder made = begun(LOOP);
        stepForward(made, steps);
        return made;
    }

    static void stepForward(Rewinder machine, int steps) {
        for (int left = steps; left > 0; left -= 60) {
            machine.forward(Math.min(60, left));
        }
    }
}
