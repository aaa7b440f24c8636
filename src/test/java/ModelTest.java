import java.lang.reflect.InvocationTargetException;
import java.lang.reflect.Method;
import java.util.ArrayList;
import java.util.List;
import java.util.Random;
import java.util.TreeMap;

/** Compares the class with the model, call by call, on runs of calls that are the same each time. */
public final class ModelTest {
    private static final TreeMap<String, Method> OURS = methods(Rewinder.class);
    private static final TreeMap<String, Method> THEIRS = methods(Model.class);
    private static final TreeMap<String, Integer> ANSWERS = new TreeMap<>();
    private static final int[] EDGES = {-1, 0, 1, 2, 3, 4, 5, 39, 40, 41, 60, 61, 63, 64, 99, 100, 399, 400, 401,
        Integer.MAX_VALUE, Integer.MIN_VALUE};
    private static final String LETTERS = "k+-*<lsjcrioty";

    private final Random random;
    private final Rewinder ours = new Rewinder();
    private final Model theirs = new Model();
    private final List<String> calls = new ArrayList<>();
    private boolean same = true;
    /** How seldom a program leaves its way: 1 is often. */
    private int wild = 1;

    private ModelTest(long seed) {
        random = new Random(seed);
    }

    public static void main(String[] args) {
        int runs = args.length > 0 ? Integer.parseInt(args[0]) : 150;
        int wrong = 0;
        for (int seed = 1; seed <= runs && wrong < 3; seed++) {
            ModelTest test = new ModelTest(seed);
            test.play(seed % 3);
            if (!test.same) {
                wrong++;
                System.out.println("seed " + seed + ":");
                for (String call : test.calls) {
                    System.out.println("    " + call);
                }
            }
        }
        if (args.length > 1) {
            ANSWERS.forEach((what, count) -> System.out.println(count + " " + what));
        }
        Check.due("runs that differ from the model", 0, wrong);
        for (String name : OURS.keySet()) {
            Check.due(name + " was called", true, ANSWERS.containsKey(name));
        }
        Check.finish();
    }

    private static TreeMap<String, Method> methods(Class<?> type) {
        TreeMap<String, Method> all = new TreeMap<>();
        for (Method method : type.getDeclaredMethods()) {
            if (java.lang.reflect.Modifier.isPublic(method.getModifiers())) {
                all.put(method.getName(), method);
            }
        }
        return all;
    }

    private void play(int kind) {
        wild = 1 + random.nextInt(6);
        if (kind == 0) {
            call("begin");
        }
        writeCode(kind);
        if (random.nextInt(4) != 0) {
            call("setSecond", random.nextInt(12));
        }
        if (random.nextInt(9) != 0) {
            call("begin");
        }
        int most = 100 + random.nextInt(350);
        while (same && calls.size() < most) {
            one();
        }
    }

    private void writeCode(int kind) {
        if (kind != 1) {
            writeCalls();
            return;
        }
        int size = 1 + random.nextInt(40);
        for (int i = 0; i < size; i++) {
            call("add", op(size, i));
        }
        call("add", 'k', 3, 1, 0);
        call("add", 'j', 3, random.nextInt(3), 0);
    }

    /** A loop that calls, one that is called and calls, and one that is called. */
    private void writeCalls() {
        int main = 2 + random.nextInt(8);
        int called = 1 + random.nextInt(4);
        int first = main + 2;
        int second = first + called + 1;
        call("add", 'k', 3, 1, 0);
        for (int i = 0; i < main; i++) {
            call("add", random.nextInt(4) == 0 ? new Object[] {'c', 0, first, 0} : simple());
        }
        call("add", 'j', 3, 1, 0);
        for (int i = 0; i < called; i++) {
            call("add", random.nextInt(3) == 0 ? new Object[] {'c', 0, second, 0} : simple());
        }
        call("add", 'r', 0, 0, 0);
        for (int i = 0; i < called; i++) {
            call("add", random.nextInt(30) == 0 ? new Object[] {'c', 0, random.nextInt(41), 0} : simple());
        }
        call("add", 'r', 0, 0, 0);
    }

    /** An instruction that leads on, and mostly spares the register of the loop. */
    private Object[] simple() {
        char letter = "kk+-*<llsssioty".charAt(random.nextInt(15));
        int a = random.nextInt(60) == 0 ? 3 : random.nextInt(3);
        return new Object[] {letter, a, letter == 'k' ? random.nextInt(80) - 6 : random.nextInt(4), random.nextInt(4)};
    }

    private Object[] op(int size, int place) {
        char letter = random.nextInt(4) == 0 ? 's' : LETTERS.charAt(random.nextInt(LETTERS.length()));
        if ("rcj".indexOf(letter) >= 0 && random.nextInt(wild) != 0) {
            letter = "+il".charAt(random.nextInt(3));
        }
        int b = random.nextInt(4);
        if (letter == 'k') {
            b = random.nextInt(3) == 0 ? random.nextInt(1999) - 999 : random.nextInt(70) - 3;
        } else if (letter == 'j' || letter == 'c') {
            b = random.nextInt(12) == 0 ? random.nextInt(41) : random.nextInt(size);
        }
        return new Object[] {letter, random.nextInt(4), b, random.nextInt(4)};
    }

    private int any() {
        return EDGES[random.nextInt(EDGES.length)];
    }

    /** A number that fits mostly, and sometimes one that does not. */
    private int upTo(int bound) {
        return random.nextInt(12) == 0 || bound <= 0 ? any() : random.nextInt(bound);
    }

    /** The number that the model answers, 0 without a run. */
    private int told(String name) {
        String answer = answer(THEIRS.get(name), theirs, new Object[0]);
        return answer.startsWith("throws") ? 0 : Integer.parseInt(answer);
    }

    private int someCell() {
        if (random.nextInt(4) == 0) {
            return upTo(64);
        }
        int cell = random.nextInt(64);
        for (int i = 0; i < 64 && answer(THEIRS.get("cell"), theirs, new Object[] {cell}).equals("0"); i++) {
            cell = (cell + 1) % 64;
        }
        return cell;
    }

    private int number() {
        return random.nextInt(5) == 0 ? any() : random.nextInt(8) - 2;
    }

    private void one() {
        switch (random.nextInt(24)) {
            case 0, 1, 2 -> call("forward", random.nextInt(9) == 0 ? any() : 1 + random.nextInt(60));
            case 3 -> call(random.nextBoolean() ? "goOn" : "next");
            case 4 -> call(random.nextBoolean() ? "finish" : "next");
            case 5 -> call(random.nextBoolean() ? "goBack" : "backNext");
            case 6 -> call(random.nextBoolean() ? "backFinish" : "backNext");
            case 7 -> call("back", random.nextInt(9) == 0 ? any() : 1 + random.nextInt(40));
            case 8, 9 -> call("go", random.nextInt(3) == 0 ? told("end") : upTo(told("end") + 1));
            case 10, 11, 12 -> event();
            case 13 -> breaks();
            case 14, 15 -> log();
            case 16, 17 -> cells();
            case 18 -> branches();
            case 19, 20 -> processes();
            case 21 -> call("snapshotAt", upTo(told("snapshots") + 1));
            case 22 -> call(random.nextBoolean() ? "againShare" : "meanDistance");
            default -> rare();
        }
        for (String look : Model.looks()) {
            if (random.nextInt(14) == 0) {
                call(look);
            }
        }
    }

    private void event() {
        if (random.nextInt(3) != 0) {
            call("go", told("end"));
        }
        switch (random.nextInt(6)) {
            case 0 -> call("feed", number());
            case 1 -> call("tick", number());
            case 2 -> call("swap");
            case 3, 4 -> call("change", random.nextBoolean() ? random.nextInt(5) : upTo(64), number());
            default -> {
                int place = upTo(14);
                if (random.nextInt(9) == 0) {
                    call("patch", place, (char) random.nextInt(128), any(), any(), any());
                } else {
                    Object[] op = op(14, place);
                    call("patch", place, op[0], op[1], op[2], op[3]);
                }
            }
        }
    }

    private void breaks() {
        switch (random.nextInt(5)) {
            case 0, 1 -> call("addBreak", upTo(14), random.nextInt(2) == 0 ? -1 : upTo(4), number(),
                random.nextInt(2) == 0 ? 0 : upTo(5));
            case 2 -> call("removeBreak", upTo(random.nextInt(2) == 0 ? 2 : 8));
            default -> call("met", upTo(random.nextInt(2) == 0 ? 2 : 8));
        }
    }

    private void log() {
        int index = upTo(told("events"));
        switch (random.nextInt(4)) {
            case 0 -> call("kindOf", index);
            case 1 -> call("countOf", index);
            case 2 -> call("without", index);
            default -> call("with", index, number());
        }
    }

    private void cells() {
        int cell = someCell();
        switch (random.nextInt(8)) {
            case 0 -> call("cell", cell);
            case 1 -> call("lastWrite", cell);
            case 2 -> call("writerOf", cell);
            case 3 -> call("callerOf", cell);
            case 4 -> call("writes", cell);
            case 5 -> call("firstAbove", cell, number());
            case 6 -> call("slice", cell);
            default -> call("hangsOn", cell, upTo(told("end") + 2));
        }
    }

    private void branches() {
        switch (random.nextInt(4)) {
            case 0 -> call("branch");
            case 1 -> call("select", upTo(theirs.runCount()));
            default -> call("difference", upTo(theirs.runCount()));
        }
    }

    private void processes() {
        int process = upTo(2);
        switch (random.nextInt(6)) {
            case 0 -> call("isOver", process);
            case 1 -> call("place", process);
            case 2 -> call("register", process, upTo(4));
            case 3 -> call("frames", process);
            case 4 -> call("returnsTo", process, upTo(3));
            default -> call("outputAt", upTo(told("outputs")));
        }
    }

    private void rare() {
        switch (random.nextInt(40)) {
            case 0 -> call("begin");
            case 1 -> call("add", op(14, 0));
            case 2 -> call("add", (char) random.nextInt(128), any(), any(), any());
            case 3 -> call("setSecond", any());
            case 4 -> call("setSecond", random.nextInt(9));
            case 5 -> call("instructions");
            default -> call("forward", 60);
        }
    }

    private void call(String name, Object... args) {
        if (!same) {
            return;
        }
        String due = answer(THEIRS.get(name), theirs, args);
        String got = answer(OURS.get(name), ours, args);
        StringBuilder text = new StringBuilder(name).append('(');
        for (Object arg : args) {
            text.append(text.charAt(text.length() - 1) == '(' ? "" : ", ").append(arg);
        }
        calls.add(text.append(") ").append(got).append(got.equals(due) ? "" : ", due is " + due).toString());
        same = got.equals(due);
        ANSWERS.merge(name, 1, Integer::sum);
        if (due.startsWith("throws")) {
            ANSWERS.merge(name + " " + due, 1, Integer::sum);
        }
    }

    private static String answer(Method method, Object object, Object[] args) {
        try {
            return String.valueOf(method.invoke(object, args));
        } catch (InvocationTargetException e) {
            return "throws." + e.getCause().getClass().getSimpleName();
        } catch (IllegalAccessException e) {
            throw new IllegalStateException(e);
        }
    }
}
