import java.util.TreeSet;

/** The range of each parameter: the first and the last number that is allowed, and those beside them. */
public final class RangeTest {
    private static final int MOST = Integer.MAX_VALUE;
    private static final int LEAST = Integer.MIN_VALUE;
    private static final String LETTERS = "k+-*<lsjcrioty";
    private static final TreeSet<String> SEEN = new TreeSet<>();

    private interface Numbered {
        Object of(int number);
    }

    public static void main(String[] args) {
        letters();
        registersOfCode();
        numbersOfCode();
        secondPlace();
        steps();
        moments();
        numbersOfEvents();
        placesOfPatches();
        breaks();
        breakNumbers();
        processes();
        frames();
        cells();
        outputs();
        snapshots();
        runs();
        stepsOfSlices();
        indexesOfEvents();
        numbersOfEventsInThought();
        values();
        TreeSet<String> told = new TreeSet<>();
        for (int promise = 1; promise <= Document.promises(); promise++) {
            for (String row : Document.rows(promise, "- `")) {
                told.add(promise + " " + row);
            }
        }
        Check.due("all parameters", told, SEEN);
        Check.finish();
    }

    private static void row(int promise, String text) {
        SEEN.add(promise + " - " + text);
    }

    /** All of these are answered, whatever the answer is. */
    private static void taken(String what, Numbered call, int... numbers) {
        for (int number : numbers) {
            try {
                call.of(number);
                Check.due(what + ": " + number, true, true);
            } catch (RuntimeException e) {
                Check.due(what + ": " + number, "an answer", e);
            }
        }
    }

    private static void refused(String what, Class<?> exception, Numbered call, int... numbers) {
        for (int number : numbers) {
            Check.refused(what + ": " + number, exception, () -> call.of(number));
        }
    }

    /** From the first number to the last one: those, and the ones beside them, and the furthest ones. */
    private static void range(String what, Class<?> exception, int first, int last, Numbered call) {
        taken(what, call, first, last);
        refused(what, exception, call, first - 1, last + 1, LEAST, MOST);
    }

    private static void argument(String what, int first, int last, Numbered call) {
        range(what, IllegalArgumentException.class, first, last, call);
    }

    private static void index(String what, int first, int last, Numbered call) {
        range(what, IndexOutOfBoundsException.class, first, last, call);
    }

    private static void letters() {
        row(2, "`letter`: the letter");
        row(19, "`letter`: the letter");
        Rewinder begun = Check.begun("k 0 1");
        for (char letter = 0; letter < 300; letter++) {
            char one = letter;
            if (LETTERS.indexOf(one) >= 0) {
                Check.due("add " + one, 0, new Rewinder().add(one, 0, 0, 0));
                Check.due("patch " + one, 1, String.valueOf(begun.patch(0, one, 0, 0, 0)).length());
            } else {
                Check.argument("add " + (int) one, () -> new Rewinder().add(one, 0, 0, 0));
                Check.argument("patch " + (int) one, () -> begun.patch(0, one, 0, 0, 0));
            }
        }
        Check.argument("the last letter", () -> new Rewinder().add((char) 65535, 0, 0, 0));
        Check.argument("the last letter", () -> begun.patch(0, (char) 65535, 0, 0, 0));
    }

    private static void both(String what, int first, int last, Numbered add, Numbered patch) {
        argument("add " + what, first, last, add);
        argument("patch " + what, first, last, patch);
    }

    private static void bothTake(String what, Numbered add, Numbered patch) {
        taken("add " + what, add, LEAST, -1, 4, 41, 1000, MOST);
        taken("patch " + what, patch, LEAST, -1, 4, 41, 1000, MOST);
    }

    private static void registersOfCode() {
        row(2, "`a`: a register for all but 'j', where it is one, too, 'c', 'r' and 'y',"
            + " for which it is of no meaning");
        row(19, "`a`: as told in add()");
        row(2, "`c`: a register for '+', '-', '*' and '<'; of no meaning otherwise");
        row(19, "`c`: as told in add()");
        Rewinder begun = Check.begun("k 0 1");
        for (char letter : LETTERS.toCharArray()) {
            Numbered addA = n -> new Rewinder().add(letter, n, 0, 0);
            Numbered patchA = n -> begun.patch(0, letter, n, 0, 0);
            Numbered addC = n -> new Rewinder().add(letter, 0, 0, n);
            Numbered patchC = n -> begun.patch(0, letter, 0, 0, n);
            if ("cry".indexOf(letter) < 0) {
                both("a of " + letter, 0, 3, addA, patchA);
            } else {
                bothTake("a of " + letter, addA, patchA);
            }
            if ("+-*<".indexOf(letter) >= 0) {
                both("c of " + letter, 0, 3, addC, patchC);
            } else {
                bothTake("c of " + letter, addC, patchC);
            }
        }
    }

    private static void numbersOfCode() {
        row(2, "`b`: a number from -999 to 999 for 'k'; a register for '+', '-', '*', '<', 'l' and 's';"
            + " a place from 0 to 40 for 'j' and 'c'; of no meaning otherwise");
        row(19, "`b`: as told in add()");
        Rewinder begun = Check.begun("k 0 1");
        for (char letter : LETTERS.toCharArray()) {
            Numbered add = n -> new Rewinder().add(letter, 0, n, 0);
            Numbered patch = n -> begun.patch(0, letter, 0, n, 0);
            if (letter == 'k') {
                both("b of k", -999, 999, add, patch);
            } else if ("+-*<ls".indexOf(letter) >= 0) {
                both("b of " + letter, 0, 3, add, patch);
            } else if (letter == 'j' || letter == 'c') {
                both("b of " + letter, 0, 40, add, patch);
            } else {
                bothTake("b of " + letter, add, patch);
            }
        }
    }

    private static void secondPlace() {
        row(3, "`place`: the place, 0 to 40, or -1 for none");
        Rewinder x = new Rewinder();
        argument("setSecond", -1, 40, x::setSecond);
        Check.due("the last that was allowed", 40, x.setSecond(0));
        Check.due("0", 0, x.setSecond(39));
        Check.due("39", 39, x.setSecond(-1));
        Check.due("-1", -1, x.setSecond(-1));
    }

    private static void steps() {
        row(6, "`steps`: how many, 1 to 60");
        row(7, "`steps`: how many, 1 to 400");
        Rewinder x = Check.begun(Check.LOOP);
        argument("forward", 1, 60, x::forward);
        Check.due("one and sixty", 61, x.now());
        argument("back", 1, 400, x::back);
        Check.due("as far as 0", 0, x.now());
        Rewinder far = Check.loop(400);
        Check.due("all 400", 0, far.back(400));
        far.go(400);
        Check.due("all but one", 1, far.back(399));
    }

    private static void moments() {
        row(8, "`moment`: the moment");
        for (int end : new int[] {0, 1, 16, 399, 400}) {
            Rewinder x = end == 0 ? Check.begun(Check.LOOP) : Check.loop(end);
            index("go in " + end, 0, end, x::go);
            x.go(0);
            index("go in " + end + " from 0", 0, end, x::go);
        }
    }

    private static void numbersOfEvents() {
        row(15, "`value`: the number");
        row(16, "`value`: the number");
        row(18, "`cell`: the cell, 0 to 63");
        row(18, "`value`: the number");
        Rewinder x = Check.begun("i 0; i 1; i 2; i 3; t 0");
        taken("feed", x::feed, LEAST, 0, MOST);
        taken("tick", x::tick, LEAST, 0, MOST);
        Check.due("the last one", MOST, x.clock());
        x.forward(3);
        Check.due("the least", LEAST, x.register(0, 0));
        Check.due("0", 0, x.register(0, 1));
        Check.due("the greatest", MOST, x.register(0, 2));
        index("change", 0, 63, n -> x.change(n, LEAST));
        Check.due("the least", LEAST, x.change(0, MOST));
        Check.due("the greatest", MOST, x.change(0, 0));
        Check.due("the last cell", LEAST, x.cell(63));
    }

    private static void placesOfPatches() {
        row(19, "`place`: its place");
        Rewinder one = Check.begun("k 0 1");
        index("one instruction", 0, 0, n -> one.patch(n, 'k', 0, 1, 0));
        Rewinder three = Check.begun("k 0 1; k 0 2; k 0 3");
        three.add('k', 0, 4, 0);
        index("three, and one that was added behind begin()", 0, 2, n -> three.patch(n, 'k', 0, 1, 0));
        Rewinder forty = Check.begun("k 0 1" + "; k 0 1".repeat(39));
        index("forty", 0, 39, n -> forty.patch(n, 'k', 0, 1, 0));
        Rewinder none = new Rewinder();
        none.begin();
        refused("none", IndexOutOfBoundsException.class, n -> none.patch(n, 'k', 0, 1, 0), -1, 0, 1, 39, 40);
    }

    private static void breaks() {
        row(20, "`place`: the place, 0 to 39");
        row(20, "`register`: the register, 0 to 3, or -1 for none");
        row(20, "`value`: the number that it must have; any for none");
        row(20, "`passes`: how many times it is passed over, 0 to 99");
        Rewinder x = Check.begun(Check.LOOP);
        argument("addBreak, place", 0, 39, n -> x.addBreak(n, 0, 0, 0));
        argument("addBreak, register", -1, 3, n -> x.addBreak(0, n, 0, 0));
        argument("addBreak, passes", 0, 99, n -> x.addBreak(0, 0, 0, n));
        Check.due("six are there", 6, x.addBreak(0, 0, 0, 0));
        Rewinder y = Check.begun(Check.LOOP);
        taken("addBreak, value", n -> y.addBreak(0, 0, n, 0), LEAST, 0, MOST);
        taken("addBreak, value for none", n -> y.addBreak(0, -1, n, 0), LEAST, 5, MOST);
        for (int i = 0; i < 6; i++) {
            Check.due("met " + i, i == 0 || i == 2 ? 0 : 1, y.met(i));
        }
    }

    private static void breakNumbers() {
        row(21, "`index`: the number of the break");
        row(22, "`index`: the number of the break");
        Rewinder none = Check.begun(Check.LOOP);
        refused("met, none", java.util.NoSuchElementException.class, none::met, LEAST, -1, 0, 1, 8, MOST);
        refused("removeBreak, none", java.util.NoSuchElementException.class, none::removeBreak, LEAST, -1, 0, 8, MOST);
        Rewinder x = Check.begun(Check.LOOP);
        for (int i = 0; i < 8; i++) {
            x.addBreak(0, -1, 0, 0);
        }
        range("met", java.util.NoSuchElementException.class, 0, 7, x::met);
        range("removeBreak", java.util.NoSuchElementException.class, 0, 7, x::removeBreak);
        range("met, without the first and last", java.util.NoSuchElementException.class, 1, 6, x::met);
        refused("removeBreak again", java.util.NoSuchElementException.class, x::removeBreak, 0, 7);
        Check.due("five are left", 5, x.removeBreak(3));
        refused("met, gone", java.util.NoSuchElementException.class, x::met, 3);
        Rewinder one = Check.begun(Check.LOOP);
        one.addBreak(0, -1, 0, 0);
        range("met, one", java.util.NoSuchElementException.class, 0, 0, one::met);
        one.begin();
        refused("met, begun again", java.util.NoSuchElementException.class, one::met, 0);
    }

    private static void processes() {
        for (int promise : new int[] {26, 27, 28, 29, 30}) {
            row(promise, "`process`: the process, 0 or 1");
        }
        row(28, "`register`: the register, 0 to 3");
        Rewinder x = Check.begun("c 0 0", 0);
        x.forward(2);
        x.swap();
        x.forward(2);
        index("isOver", 0, 1, x::isOver);
        index("place", 0, 1, x::place);
        index("register, process", 0, 1, n -> x.register(n, 3));
        index("register of 0", 0, 3, n -> x.register(0, n));
        index("register of 1", 0, 3, n -> x.register(1, n));
        index("frames", 0, 1, x::frames);
        index("returnsTo, process", 0, 1, n -> x.returnsTo(n, 1));
    }

    private static void frames() {
        row(30, "`frame`: the frame, 0 for the last one");
        Rewinder x = Check.begun("c 0 1; c 0 2; c 0 3; c 0 4; c 0 5; c 0 6; r");
        refused("returnsTo, none", java.util.NoSuchElementException.class, n -> x.returnsTo(0, n), LEAST, -1, 0, MOST);
        for (int frames = 1; frames <= 6; frames++) {
            x.forward(1);
            range("returnsTo of " + frames, java.util.NoSuchElementException.class, 0, frames - 1,
                n -> x.returnsTo(0, n));
            Check.due("0 for the last one", frames, x.returnsTo(0, 0));
            Check.due("the first one", 1, x.returnsTo(0, frames - 1));
        }
    }

    private static void cells() {
        row(31, "`cell`: the cell, 0 to 63");
        for (int promise : new int[] {36, 37, 38, 39, 40, 48, 49}) {
            row(promise, "`cell`: the cell, 0 to 63");
        }
        Rewinder x = Check.begun("k 0 63; s 1 0; s 0 0; j 0 3");
        x.forward(3);
        index("cell", 0, 63, x::cell);
        index("lastWrite", 0, 63, x::lastWrite);
        index("writerOf", 0, 63, x::writerOf);
        index("callerOf", 0, 63, x::callerOf);
        index("writes", 0, 63, x::writes);
        index("firstAbove", 0, 63, n -> x.firstAbove(n, 62));
        index("slice", 0, 63, x::slice);
        index("hangsOn", 0, 63, n -> x.hangsOn(n, 1));
        Check.due("the cell 0", 1, x.lastWrite(0));
        Check.due("the cell 63", 2, x.lastWrite(63));
        Check.due("the cell 0", 1, x.writes(0));
        Check.due("the cell 63", 1, x.writes(63));
    }

    private static void outputs() {
        row(33, "`index`: the index, from 0");
        Rewinder x = Check.begun("o 0; o 1; j 2 0");
        refused("outputAt, none", IndexOutOfBoundsException.class, x::outputAt, LEAST, -1, 0, 1, MOST);
        x.forward(1);
        index("outputAt, one", 0, 0, x::outputAt);
        x.forward(1);
        index("outputAt, two", 0, 1, x::outputAt);
        x.back(1);
        index("outputAt, one again", 0, 0, x::outputAt);
        Rewinder many = Check.begun("k 0 1; o 0; j 0 1");
        Check.stepForward(many, 400);
        index("outputAt, 200", 0, 199, many::outputAt);
    }

    private static void snapshots() {
        row(42, "`index`: the index, by rising counts, from 0");
        int[][] rows = {{15, 0}, {16, 1}, {64, 4}, {80, 4}, {128, 5}, {304, 7}, {400, 7}};
        for (int[] row : rows) {
            Rewinder x = Check.loop(row[0]);
            index("snapshotAt in " + row[0], 0, row[1], x::snapshotAt);
            for (int i = 0; i < row[1]; i++) {
                Check.due("by rising counts", true, x.snapshotAt(i) < x.snapshotAt(i + 1));
            }
        }
    }

    private static void runs() {
        row(46, "`run`: the number of the run");
        row(47, "`run`: the number of the run");
        Rewinder x = Check.begun(Check.LOOP);
        for (int last = 0; last < 5; last++) {
            if (last > 0) {
                x.branch();
                x.tick(last);
            }
            index("select up to " + last, 0, last, x::select);
        }
        for (int last = 0; last < 5; last++) {
            int one = last;
            x.select(last);
            Check.noElement("difference of itself", () -> x.difference(one));
            Check.due("difference of another one", 0, x.difference((last + 1) % 5));
        }
        refused("difference", IndexOutOfBoundsException.class, x::difference, LEAST, -1, 5, MOST);
        Rewinder two = Check.begun(Check.LOOP);
        two.branch();
        two.tick(1);
        taken("difference of two", two::difference, 0);
        refused("difference of two", IndexOutOfBoundsException.class, two::difference, -1, 2, 4, 5);
    }

    private static void stepsOfSlices() {
        row(49, "`step`: the step, from 1");
        Rewinder x = Check.begun("s 0 1; s 0 1; k 1 1; j 1 2");
        x.forward(1);
        Check.due("the step 1", true, x.hangsOn(0, 1));
        for (int other : new int[] {LEAST, -1, 0, 2, 3, 63, 64, 65, 399, 400, 401, 448, 449, MOST}) {
            Check.due("the step " + other, false, x.hangsOn(0, other));
        }
        x.forward(1);
        Check.due("the step 2", true, x.hangsOn(0, 2));
        Check.due("not the one that was overwritten", false, x.hangsOn(0, 1));
        x.back(1);
        Check.due("not one behind the present moment", false, x.hangsOn(0, 2));
        Check.due("but the last one up to it", true, x.hangsOn(0, 1));
    }

    private static void indexesOfEvents() {
        for (int promise : new int[] {51, 52, 53, 54}) {
            row(promise, "`index`: the index of the event, from 0");
        }
        Rewinder x = Check.begun(Check.LOOP);
        refused("kindOf, none", IndexOutOfBoundsException.class, x::kindOf, LEAST, -1, 0, 1, MOST);
        refused("countOf, none", IndexOutOfBoundsException.class, x::countOf, LEAST, -1, 0, 1, MOST);
        refused("without, none", IndexOutOfBoundsException.class, x::without, LEAST, -1, 0, 1, MOST);
        refused("with, none", IndexOutOfBoundsException.class, n -> x.with(n, 1), LEAST, -1, 0, 1, MOST);
        for (int last = 0; last < 3; last++) {
            x.feed(last);
            index("kindOf up to " + last, 0, last, x::kindOf);
            index("countOf up to " + last, 0, last, x::countOf);
        }
        x.forward(32);
        index("without", 0, 2, x::without);
        index("with", 0, 2, n -> x.with(n, 7));
        x.back(32);
        index("with, wherever one is", 0, 2, n -> x.with(n, 7));
    }

    private static void numbersOfEventsInThought() {
        row(54, "`value`: the number");
        Rewinder x = Check.begun("k 2 1; j 2 1");
        x.feed(0);
        x.tick(0);
        x.change(63, 0);
        x.forward(32);
        for (int event = 0; event < 3; event++) {
            int one = event;
            taken("with " + event, n -> x.with(one, n), LEAST, -1, 1, MOST);
            Check.noElement("with the same number", () -> x.with(one, 0));
        }
    }

    private static void values() {
        row(40, "`value`: the number");
        Rewinder x = Check.begun("k 2 1; j 2 1");
        x.forward(1);
        x.change(5, MOST);
        x.change(6, LEAST);
        Check.due("above the least", 0, x.firstAbove(5, LEAST));
        Check.due("above the greatest but one", 1, x.firstAbove(5, MOST - 1));
        Check.noElement("none is above the greatest", () -> x.firstAbove(5, MOST));
        Check.due("0 is above -1", 0, x.firstAbove(6, -1));
        Check.noElement("0 is not above 0", () -> x.firstAbove(6, 0));
        Rewinder zero = Check.begun("k 2 1; j 2 1");
        zero.change(6, LEAST);
        Check.noElement("the least is not above itself", () -> zero.firstAbove(6, LEAST));
        zero.forward(1);
        zero.change(6, LEAST + 1);
        Check.due("the next one is", 1, zero.firstAbove(6, LEAST));
    }
}
