import java.lang.reflect.InvocationTargetException;
import java.lang.reflect.Method;
import java.lang.reflect.Modifier;
import java.util.ArrayList;
import java.util.List;
import java.util.NoSuchElementException;
import java.util.TreeSet;

/**
 * 'Exceptions' in the document's 'Terms', and each of its 'Throws' rows: that it is thrown, that the one that is
 * listed first comes first, and that a call that is refused changes nothing.
 */
public final class RefusalTest {
    private static final Document TERMS = Document.part("Exceptions. ", "## Promise 1:");
    private static final Class<?> STATE = IllegalStateException.class;
    private static final Class<?> ARGUMENT = IllegalArgumentException.class;
    private static final Class<?> INDEX = IndexOutOfBoundsException.class;
    private static final Class<?> UNSUPPORTED = UnsupportedOperationException.class;
    private static final Class<?> NONE = NoSuchElementException.class;
    private static final Class<?> ARITHMETIC = ArithmeticException.class;
    private static final String RICH = "c 0 5; i 0; o 0; k 3 1; j 3 0; k 1 1; + 2 2 1; s 2 2; y; r;"
        + " k 3 1; t 1; s 1 3; y; j 3 11";

    /** Makes an object on which a call is refused. */
    private interface Maker {
        Rewinder made();
    }

    private interface Call {
        Object of(Rewinder x);
    }

    private static final TreeSet<String> SEEN = new TreeSet<>();

    public static void main(String[] args) throws Exception {
        TERMS.says("Exceptions. A method that throws an exception changes nothing.");
        ofCode();
        ofMoves();
        ofEvents();
        ofBreaks();
        ofTheState();
        ofCells();
        ofRunsAndSnapshots();
        ofTheLog();
        withoutARun();
        order();
        Check.due("all that the document tells is thrown", told(), SEEN);
        TERMS.isTold();
        Check.finish();
    }

    // ---- objects ----

    private static Rewinder notBegun() {
        Rewinder x = Check.machine(RICH);
        x.setSecond(10);
        return x;
    }

    /** Two runs, with events and breaks; present is the first one, at its end, or ahead of it. */
    private static Rewinder rich(int moment) {
        Rewinder x = notBegun();
        x.begin();
        x.feed(3);
        x.tick(7);
        x.addBreak(1, -1, 0, 2);
        x.addBreak(7, 2, 3, 0);
        x.addBreak(3, -1, 0, 0);
        x.removeBreak(2);
        x.forward(60);
        x.swap();
        x.change(40, 5);
        x.forward(20);
        x.go(50);
        x.branch();
        x.patch(6, '-', 2, 2, 1);
        x.forward(30);
        x.select(0);
        x.go(moment);
        return x;
    }

    private static Rewinder inside() {
        return rich(45);
    }

    private static Rewinder atEnd() {
        return rich(80);
    }

    private static Rewinder atStart() {
        return rich(0);
    }

    private static Rewinder withFortyInstructions() {
        Rewinder x = atEnd();
        for (int i = x.instructions(); i < 40; i++) {
            x.add('o', 0, 0, 0);
        }
        return x;
    }

    private static Rewinder withEightBreaks() {
        Rewinder x = inside();
        for (int i = 3; i < 8; i++) {
            x.addBreak(i, -1, 0, i);
        }
        return x;
    }

    private static Rewinder withFiveRuns() {
        Rewinder x = inside();
        x.branch();
        x.branch();
        x.branch();
        return x;
    }

    private static Rewinder justBegun() {
        Rewinder x = notBegun();
        x.begin();
        x.feed(1);
        return x;
    }

    private static Rewinder withoutSnapshots() {
        Rewinder x = justBegun();
        x.forward(15);
        x.back(3);
        return x;
    }

    private static Rewinder withEventsAlone() {
        Rewinder x = justBegun();
        x.swap();
        x.patch(3, 'k', 3, 2, 0);
        return x;
    }

    // ---- what can be seen of an object ----

    private static String answer(Call call, Rewinder x) {
        try {
            return String.valueOf(call.of(x));
        } catch (RuntimeException e) {
            return e.getClass().getSimpleName();
        }
    }

    private static String answers(Rewinder x, Call... calls) {
        StringBuilder text = new StringBuilder();
        for (Call call : calls) {
            text.append(answer(call, x)).append(' ');
        }
        return text.toString();
    }

    private static String portrait(Rewinder x) {
        StringBuilder text = new StringBuilder(answers(x, Rewinder::instructions, Rewinder::now, Rewinder::end,
            Rewinder::present, Rewinder::clock, Rewinder::console, Rewinder::outputs, Rewinder::events,
            Rewinder::snapshots, Rewinder::pages, Rewinder::again, Rewinder::againShare, Rewinder::meanDistance,
            Rewinder::sum, Rewinder::isSound));
        for (int i = 0; i < 8; i++) {
            int one = i;
            text.append(answers(x, y -> y.met(one), y -> y.snapshotAt(one), y -> y.kindOf(one), y -> y.countOf(one),
                y -> y.writes(one), y -> y.lastWrite(one), y -> y.slice(one), y -> y.register(one / 4, one % 4)));
        }
        return text.append(answers(x, y -> y.place(0), y -> y.place(1), y -> y.frames(0), y -> y.frames(1),
            y -> y.isOver(0), y -> y.isOver(1))).toString();
    }

    /** What comes of an object when it is used further. */
    private static String future(Rewinder x) {
        String near = answers(x, y -> y.setSecond(9), y -> y.addBreak(2, -1, 0, 0), Rewinder::goOn, Rewinder::now,
            Rewinder::next, Rewinder::finish, Rewinder::backNext, Rewinder::backFinish, Rewinder::goBack,
            Rewinder::now, y -> y.select(1), Rewinder::sum, y -> y.difference(0), y -> y.select(0), Rewinder::now,
            y -> y.feed(1), y -> y.tick(2), y -> y.change(1, 2), y -> y.patch(0, 't', 1, 0, 0), y -> y.forward(40),
            y -> y.without(1), Rewinder::branch, y -> y.removeBreak(0));
        String seen = portrait(x);
        String far = answers(x, y -> y.add('k', 0, 1, 0), Rewinder::begin, y -> y.forward(20));
        return near + seen + far + portrait(x);
    }

    // ---- the rows ----

    private static void refused(String name, Class<?> exception, Maker maker, Call call) {
        String what = name + " " + exception.getSimpleName();
        SEEN.add(what);
        Rewinder x = maker.made();
        String before = portrait(x);
        Check.refused(what, exception, () -> call.of(x));
        Check.due(what + " changes nothing", before, portrait(x));
        Rewinder tried = maker.made();
        answer(call, tried);
        Check.due(what + " changes nothing of what comes", future(maker.made()), future(tried));
    }

    private static void ofCode() {
        refused("add", ARGUMENT, RefusalTest::inside, x -> x.add('z', 0, 0, 0));
        refused("add", ARGUMENT, RefusalTest::notBegun, x -> x.add('k', 0, 1000, 0));
        refused("add", STATE, RefusalTest::withFortyInstructions, x -> x.add('k', 0, 0, 0));
        refused("setSecond", ARGUMENT, RefusalTest::inside, x -> x.setSecond(41));
        refused("setSecond", ARGUMENT, RefusalTest::notBegun, x -> x.setSecond(-2));
    }

    private static void ofMoves() {
        refused("forward", ARGUMENT, RefusalTest::inside, x -> x.forward(0));
        refused("forward", ARGUMENT, RefusalTest::atEnd, x -> x.forward(61));
        refused("back", ARGUMENT, RefusalTest::inside, x -> x.back(0));
        refused("back", ARGUMENT, RefusalTest::atEnd, x -> x.back(401));
        refused("go", INDEX, RefusalTest::inside, x -> x.go(-1));
        refused("go", INDEX, RefusalTest::inside, x -> x.go(81));
        refused("finish", UNSUPPORTED, RefusalTest::atStart, Rewinder::finish);
        refused("backNext", NONE, RefusalTest::atStart, Rewinder::backNext);
        refused("backFinish", UNSUPPORTED, RefusalTest::atStart, Rewinder::backFinish);
    }

    private static void ofEvents() {
        refused("feed", UNSUPPORTED, RefusalTest::inside, x -> x.feed(1));
        refused("tick", UNSUPPORTED, RefusalTest::inside, x -> x.tick(1));
        refused("swap", UNSUPPORTED, RefusalTest::inside, Rewinder::swap);
        refused("change", INDEX, RefusalTest::atEnd, x -> x.change(64, 1));
        refused("change", UNSUPPORTED, RefusalTest::inside, x -> x.change(63, 1));
        refused("patch", INDEX, RefusalTest::atEnd, x -> x.patch(15, 'k', 0, 0, 0));
        refused("patch", ARGUMENT, RefusalTest::atEnd, x -> x.patch(14, 'k', 4, 0, 0));
        refused("patch", UNSUPPORTED, RefusalTest::inside, x -> x.patch(14, 'k', 0, 0, 0));
    }

    private static void ofBreaks() {
        refused("addBreak", ARGUMENT, RefusalTest::inside, x -> x.addBreak(40, 0, 0, 0));
        refused("addBreak", ARGUMENT, RefusalTest::inside, x -> x.addBreak(0, 4, 0, 0));
        refused("addBreak", ARGUMENT, RefusalTest::inside, x -> x.addBreak(0, 0, 0, 100));
        refused("addBreak", UNSUPPORTED, RefusalTest::withEightBreaks, x -> x.addBreak(0, 0, 0, 0));
        refused("removeBreak", NONE, RefusalTest::inside, x -> x.removeBreak(2));
        refused("removeBreak", NONE, RefusalTest::inside, x -> x.removeBreak(3));
        refused("met", NONE, RefusalTest::inside, x -> x.met(2));
        refused("met", NONE, RefusalTest::inside, x -> x.met(3));
    }

    private static void ofTheState() {
        refused("isOver", INDEX, RefusalTest::inside, x -> x.isOver(2));
        refused("place", INDEX, RefusalTest::inside, x -> x.place(-1));
        refused("register", INDEX, RefusalTest::inside, x -> x.register(2, 0));
        refused("register", INDEX, RefusalTest::inside, x -> x.register(0, 4));
        refused("frames", INDEX, RefusalTest::inside, x -> x.frames(2));
        refused("returnsTo", INDEX, RefusalTest::inside, x -> x.returnsTo(2, 0));
        refused("returnsTo", NONE, RefusalTest::inside, x -> x.returnsTo(0, x.frames(0)));
        refused("cell", INDEX, RefusalTest::inside, x -> x.cell(64));
        refused("outputAt", INDEX, RefusalTest::inside, x -> x.outputAt(x.outputs()));
    }

    private static void ofCells() {
        refused("lastWrite", INDEX, RefusalTest::inside, x -> x.lastWrite(64));
        refused("lastWrite", NONE, RefusalTest::atEnd, x -> x.lastWrite(40));
        refused("writerOf", INDEX, RefusalTest::inside, x -> x.writerOf(64));
        refused("writerOf", NONE, RefusalTest::atEnd, x -> x.writerOf(40));
        refused("callerOf", INDEX, RefusalTest::inside, x -> x.callerOf(64));
        refused("callerOf", NONE, RefusalTest::atEnd, x -> x.callerOf(40));
        refused("writes", INDEX, RefusalTest::inside, x -> x.writes(64));
        refused("firstAbove", INDEX, RefusalTest::inside, x -> x.firstAbove(64, 0));
        refused("firstAbove", NONE, RefusalTest::inside, x -> x.firstAbove(40, 4));
        refused("slice", INDEX, RefusalTest::inside, x -> x.slice(-1));
        refused("hangsOn", INDEX, RefusalTest::inside, x -> x.hangsOn(64, 1));
    }

    private static void ofRunsAndSnapshots() {
        refused("snapshotAt", INDEX, RefusalTest::inside, x -> x.snapshotAt(x.snapshots()));
        refused("branch", UNSUPPORTED, RefusalTest::withFiveRuns, Rewinder::branch);
        refused("select", INDEX, RefusalTest::inside, x -> x.select(2));
        refused("difference", INDEX, RefusalTest::inside, x -> x.difference(2));
        refused("difference", NONE, RefusalTest::inside, x -> x.difference(0));
        refused("againShare", ARITHMETIC, RefusalTest::justBegun, Rewinder::againShare);
        refused("meanDistance", ARITHMETIC, RefusalTest::withoutSnapshots, Rewinder::meanDistance);
    }

    private static void ofTheLog() {
        refused("kindOf", INDEX, RefusalTest::inside, x -> x.kindOf(4));
        refused("countOf", INDEX, RefusalTest::inside, x -> x.countOf(-1));
        refused("without", INDEX, RefusalTest::inside, x -> x.without(4));
        refused("without", NONE, RefusalTest::withoutSnapshots, x -> x.without(0));
        refused("with", INDEX, RefusalTest::inside, x -> x.with(4, 1));
        refused("with", UNSUPPORTED, RefusalTest::inside, x -> x.with(2, 1));
        refused("with", UNSUPPORTED, RefusalTest::withEventsAlone, x -> x.with(2, 1));
        refused("with", NONE, RefusalTest::inside, x -> x.with(0, 3));
    }

    /** The names and exceptions of all 'Throws' rows. */
    private static TreeSet<String> told() {
        TreeSet<String> rows = new TreeSet<>();
        for (int promise = 1; promise <= Document.promises(); promise++) {
            for (String row : Document.rows(promise, "Throws `")) {
                rows.add(Document.nameOf(promise) + " " + row.replaceAll("^Throws `([A-Za-z]*)`.*", "$1"));
            }
        }
        Check.due("58 promises", 58, Document.promises());
        return rows;
    }

    private static void withoutARun() throws IllegalAccessException {
        TERMS.says("Each method but add(), setSecond(), begin() and instructions() throws IllegalStateException,"
            + " first, if no run was begun.");
        List<String> others = new ArrayList<>();
        for (Method method : Rewinder.class.getDeclaredMethods()) {
            if (Modifier.isPublic(method.getModifiers())) {
                for (int number : new int[] {0, 1, -1, 99999}) {
                    if (!refusedWithoutARun(method, number)) {
                        others.add(method.getName());
                        break;
                    }
                }
            }
        }
        others.sort(null);
        Check.due("each one but", List.of("add", "begin", "instructions", "setSecond"), others);
        Rewinder x = Check.machine("k 0 1");
        Check.due("add()", 1, x.add('k', 0, 2, 0));
        Check.due("setSecond()", -1, x.setSecond(1));
        Check.due("instructions()", 2, x.instructions());
        Check.due("begin()", 2, x.begin());
        Check.due("from then on", 0, x.now());
    }

    private static boolean refusedWithoutARun(Method method, int number) throws IllegalAccessException {
        Object[] args = new Object[method.getParameterCount()];
        for (int i = 0; i < args.length; i++) {
            args[i] = method.getParameterTypes()[i] == char.class ? (Object) 'z' : (Object) number;
        }
        String what = method.getName();
        Rewinder x = notBegun();
        boolean refused = throwsState(method, x, args);
        if (refused) {
            SEEN.add(what + " IllegalStateException");
            Check.due(what + " without a run changes nothing", future(notBegun()), future(x));
        }
        return refused;
    }

    private static boolean throwsState(Method method, Rewinder x, Object[] args) throws IllegalAccessException {
        try {
            method.invoke(x, args);
            return false;
        } catch (InvocationTargetException e) {
            return e.getCause().getClass() == STATE;
        }
    }

    private static void order() {
        TERMS.says("If several exceptions apply, the one that is listed first is thrown.");
        Rewinder full = withFortyInstructions();
        Check.argument("add: the letter, then the place", () -> full.add('z', 0, 0, 0));
        Check.argument("add: the number, then the place", () -> full.add('o', 4, 0, 0));
        Rewinder x = inside();
        Check.index("change: the cell, then the moment", () -> x.change(64, 1));
        Check.index("patch: the place, then the letter", () -> x.patch(15, 'z', 0, 0, 0));
        Check.index("patch: the place, then the moment", () -> x.patch(-1, 'k', 0, 0, 0));
        Check.argument("patch: the letter, then the moment", () -> x.patch(0, 'z', 0, 0, 0));
        Check.argument("patch: the number, then the moment", () -> x.patch(0, 'k', 0, -1000, 0));
        Rewinder eight = withEightBreaks();
        Check.argument("addBreak: the place, then the eight", () -> eight.addBreak(40, 0, 0, 0));
        Check.argument("addBreak: the register, then the eight", () -> eight.addBreak(0, -2, 0, 0));
        Check.argument("addBreak: the passes, then the eight", () -> eight.addBreak(0, 0, 0, -1));
        Check.index("returnsTo: the process, then the frame", () -> x.returnsTo(2, 6));
        Check.index("returnsTo: the process, then the frame", () -> x.returnsTo(-1, -1));
        Check.index("lastWrite: the cell, then the step", () -> x.lastWrite(64));
        Check.index("writerOf: the cell, then the step", () -> x.writerOf(-1));
        Check.index("callerOf: the cell, then the step", () -> x.callerOf(64));
        Check.index("firstAbove: the cell, then the moment", () -> x.firstAbove(64, Integer.MAX_VALUE));
        Check.index("difference: the run, then the moment", () -> x.difference(2));
        Check.index("without: the event, then the count", () -> x.without(4));
        Check.index("with: the event, then its kind", () -> x.with(4, 0));
        Rewinder events = withEventsAlone();
        Check.noElement("without: 'x' is not found out", () -> events.without(1));
        Check.unsupported("with: 'x', then that it is not found out", () -> events.with(1, 0));
        Check.unsupported("with: 'p', then that it is not found out", () -> events.with(2, 0));
    }
}
