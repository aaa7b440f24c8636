import java.math.BigInteger;
import java.util.ArrayList;
import java.util.List;

/** The edges that the document names in its 'Terms', under 'Runs and moments', 'Log' and 'Sum'. */
public final class RunEdgeTest {
    private static final Document TERMS = Document.part("Runs and moments. ", "Snapshots. ");
    private static final int MOST = Integer.MAX_VALUE;
    private static final int LEAST = Integer.MIN_VALUE;
    private static final String CALLS = "c 0 3; k 0 1; j 0 0; c 0 6; k 1 2; r; k 2 3; r";

    public static void main(String[] args) {
        steps();
        moments();
        fourHundred();
        fourHundredInBranches();
        ends();
        always();
        newSteps();
        forwardAheadOfTheEnd();
        goOnAheadOfTheEnd();
        callsAheadOfTheEnd();
        eventsAheadOfTheEnd();
        switchesAheadOfTheEnd();
        events();
        eventsAtTheEnd();
        eventsThatChangeNothing();
        keptSums();
        keptSumsOfOneCount();
        lastKeptSum();
        sums();
        sumsOfExtremes();
        TERMS.isTold();
        Check.finish();
    }

    // ---- Runs and moments ----

    private static void steps() {
        TERMS.says("Runs and moments. A step does the instruction of the present process;"
            + " there is none when both are over.");
        Rewinder x = Check.begun("k 0 1; k 0 2; k 0 3", 2);
        Check.due("one step", 1, x.forward(1));
        Check.due("of the present process", 1, x.place(0));
        Check.due("not of the other one", 2, x.place(1));
        Check.due("up to the end of both", 4, x.forward(60));
        Check.due("one is over, then the other one", true, x.isOver(0) && x.isOver(1));
        Check.due("forward() does none", 4, x.forward(1));
        Check.due("goOn() does none", 'e', x.goOn());
        Check.due("next() does none", 4, x.next());
        Check.due("the end stays", 4, x.end());
        Rewinder framed = Check.begun("c 0 40");
        framed.forward(1);
        Check.due("finish() does none", 1, framed.finish());
        Rewinder none = new Rewinder();
        none.begin();
        Check.due("without code", 0, none.forward(60));
        Check.due("without code", 'e', none.goOn());
        Check.due("without code", 0, none.next());
        Check.unsupported("without code", none::finish);
        Check.due("without code", 0, none.end());
        Check.due("one that is over is not enough", 2, Check.begun("k 0 1; k 0 2").forward(60));
    }

    private static void moments() {
        TERMS.says("A run begins with the moment 0; the moment n is behind its step n and all events of that count.");
        Rewinder x = Check.begun(Check.LOOP);
        Check.due("the first moment", 0, x.now());
        x.tick(5);
        x.tick(6);
        x.feed(1);
        Check.due("still", 0, x.now());
        x.forward(3);
        x.tick(7);
        x.change(3, 50);
        x.change(3, 51);
        x.forward(1);
        x.go(0);
        Check.due("0 is behind all events of 0", 6, x.clock());
        Check.due("0 is behind all events of 0", 1, x.console());
        x.go(2);
        Check.due("2 is ahead of the step 3", 0, x.cell(1));
        Check.due("2 is ahead of the events of 3", 6, x.clock());
        x.go(3);
        Check.due("3 is behind the step 3", 1, x.cell(1));
        Check.due("3 is behind the first event of 3", 7, x.clock());
        Check.due("3 is behind the last event of 3", 51, x.cell(3));
        Check.due("3 is ahead of the step 4", 3, x.place(0));
        Check.index("no moment -1", () -> x.go(-1));
        Check.index("no moment 5", () -> x.go(5));
        Check.due("the last one", 3, x.go(4));
    }

    private static void fourHundred() {
        TERMS.says("At most 400 steps a run.");
        Rewinder x = Check.loop(399);
        Check.due("the 400th", 400, x.forward(1));
        Check.due("no 401st", 400, x.forward(1));
        Check.due("no 401st of many", 400, x.forward(60));
        Check.due("none by goOn()", 'l', x.goOn());
        Check.due("none by next()", 400, x.next());
        Check.due("the end", 400, x.end());
        Check.due("the 400th was done", 1, x.place(0));
        Check.index("no moment 401", () -> x.go(401));
        Check.due("events are no steps", 1, x.feed(1));
        Check.due("kept at 400", 400, x.countOf(0));
        Check.due("not over", false, x.isOver(0));
        Rewinder many = Check.loop(341);
        Check.due("as far as there are some", 400, many.forward(60));
        Rewinder leap = Check.loop(341);
        Check.due("by goOn()", 'l', leap.goOn());
        Check.due("there", 400, leap.now());
        leap.go(399);
        Check.due("by next() from 399", 400, leap.next());
        Rewinder framed = Check.begun("c 0 1; k 1 1; j 1 1");
        Check.stepForward(framed, 399);
        Check.due("the 400th by finish()", 400, framed.finish());
        Check.due("no 401st", 400, framed.finish());
        Check.due("the end", 400, framed.end());
    }

    private static void fourHundredInBranches() {
        Rewinder x = Check.loop(400);
        x.branch();
        Check.due("a branch at 400 has no step more", 400, x.forward(1));
        x.go(399);
        x.branch();
        Check.due("a branch at 399 has one", 400, x.forward(60));
        Check.due("its end", 400, x.end());
        x.go(0);
        x.branch();
        Check.stepForward(x, 420);
        Check.due("a branch at 0 has 400", 400, x.end());
        Rewinder one = Check.loop(60);
        one.branch();
        Check.stepForward(one, 400);
        one.select(0);
        Check.stepForward(one, 400);
        Check.due("each run has 400", 400, one.end());
    }

    private static void ends() {
        TERMS.says("The last moment of a run is its end.");
        Rewinder x = Check.begun(Check.LOOP);
        Check.due("at first", 0, x.end());
        x.tick(1);
        Check.due("an event is no moment", 0, x.end());
        x.forward(1);
        Check.due("one step", 1, x.end());
        x.back(1);
        Check.due("going back leaves it", 1, x.end());
        Check.due("up to it", 0, x.go(1));
        Check.index("not behind it", () -> x.go(2));
    }

    private static void always() {
        TERMS.says("One is always at a moment of the present run.");
        Rewinder x = Check.loop(20);
        x.go(7);
        x.branch();
        Check.due("at the moment of the branch", 7, x.now());
        Check.index("the other one has more", () -> x.go(8));
        x.select(0);
        Check.due("at the end of the selected one", 20, x.now());
        x.go(15);
        x.select(1);
        Check.due("at the end of the branch", 7, x.now());
        x.begin();
        Check.due("at 0", 0, x.now());
        Check.due("back() ends at 0", 0, x.back(400));
        x.forward(3);
        Check.due("back() by all of them", 0, x.back(3));
        Check.due("goBack() ends at 0", 's', x.goBack());
        Check.due("there", 0, x.now());
    }

    private static void newSteps() {
        TERMS.says("Steps at the end are new ones.");
        Rewinder x = Check.loop(15);
        Check.due("none again", 0.0f, x.againShare());
        Check.due("a new one makes the snapshot", 1, x.snapshots());
        x.forward(1);
        Check.due("of 16", 2, x.snapshots());
        x.go(15);
        x.forward(1);
        Check.due("not a second one", 2, x.snapshots());
        Check.due("15 again to come to 15, none to the snapshot", 15.0f / 31.0f, x.againShare());
        x.forward(1);
        Check.due("a new one at the end", 15.0f / 32.0f, x.againShare());
    }

    /** Goes to a moment of a loop of 20 steps; the snapshots are at 0 and 16. */
    private static Rewinder at(int moment) {
        Rewinder x = Check.loop(20);
        x.go(moment);
        return x;
    }

    private static void costs(String what, Rewinder x, int againBefore, int again, int end) {
        Check.due(what + ": again", again, x.again() - againBefore);
        Check.due(what + ": end", end, x.end());
    }

    private static void forwardAheadOfTheEnd() {
        TERMS.says("What goes forward ahead of the end goes to the moment at which it ends, if that is in the run;"
            + " otherwise to the end, with new steps from there on.");
        Rewinder ahead = at(14);
        ahead.forward(5);
        costs("one ahead of the end", ahead, 14, 3, 20);
        Rewinder end = at(14);
        Check.due("to the end", 20, end.forward(6));
        costs("to the end", end, 14, 4, 20);
        Rewinder behind = at(14);
        Check.due("one behind the end", 21, behind.forward(7));
        costs("one behind the end", behind, 14, 4, 21);
        Rewinder at = at(20);
        Check.due("from the end", 21, at.forward(1));
        costs("from the end", at, 0, 0, 21);
        Rewinder over = Check.begun("k 0 1; k 0 2; k 0 3");
        over.forward(9);
        over.go(1);
        Check.due("behind the end of one that is over", 3, over.forward(60));
        costs("behind the end of one that is over", over, 1, 2, 3);
    }

    private static void goOnAheadOfTheEnd() {
        int[][] rows = {{19, 1, 6, 3, 20}, {20, 2, 6, 4, 20}, {21, 3, 6, 4, 21}};
        for (int[] row : rows) {
            Rewinder x = at(14);
            x.addBreak(row[1], -1, 0, row[2]);
            Check.due("goOn() to a break at " + row[0], 'b', x.goOn());
            Check.due("there", row[0], x.now());
            costs("goOn() to " + row[0], x, 14, row[3], row[4]);
        }
        Rewinder none = at(14);
        Check.due("goOn() without a break", 'l', none.goOn());
        Check.due("60 steps", 74, none.now());
        costs("goOn() without a break", none, 14, 4, 74);
        Rewinder all = Check.loop(74);
        all.go(14);
        Check.due("goOn() without a break", 'l', all.goOn());
        costs("goOn() by 60 to the end", all, 14, 10, 74);
    }

    private static void callsAheadOfTheEnd() {
        int[][] rows = {{5, 6, 5, 6}, {6, 6, 6, 6}, {7, 6, 6, 7}};
        for (int[] row : rows) {
            Rewinder next = Check.begun(CALLS);
            next.forward(row[0]);
            next.go(0);
            Check.due("next() with " + row[0], row[1], next.next());
            costs("next() with " + row[0], next, 0, row[2], row[3]);
            Rewinder finish = Check.begun(CALLS);
            finish.forward(row[0]);
            finish.go(1);
            Check.due("finish() with " + row[0], row[1], finish.finish());
            costs("finish() with " + row[0], finish, 1, row[2] - 1, row[3]);
        }
    }

    /** What goes forward looks for where it ends: the events of the run come about there, too. */
    private static void eventsAheadOfTheEnd() {
        Rewinder x = Check.begun("l 0 1; j 2 0; l 0 1; k 2 1; j 2 2");
        x.forward(5);
        x.change(0, 8);
        x.forward(5);
        x.change(0, 9);
        x.forward(10);
        Check.noElement("looking first, without an event", () -> x.without(0));
        x.addBreak(3, 0, 8, 0);
        x.addBreak(3, 0, 9, 0);
        x.go(1);
        Check.due("to the number of the first event", 'b', x.goOn());
        Check.due("there", 6, x.now());
        x.go(9);
        Check.due("to the number of the second event", 'b', x.goOn());
        Check.due("there", 12, x.now());
        x.isSound();
        x.go(2);
        x.branch();
        x.forward(9);
        x.go(2);
        Check.due("in a branch without them", 'l', x.goOn());
        x.select(0);
        x.go(2);
        Check.due("in the first one", 'b', x.goOn());
        Check.due("there", 6, x.now());
    }

    private static void switchesAheadOfTheEnd() {
        Rewinder x = Check.begun("k 0 1; k 0 2; k 0 3; j 0 0; k 3 1; j 3 4", 4);
        x.forward(2);
        x.swap();
        x.forward(4);
        x.swap();
        x.forward(9);
        Check.noElement("looking first, without a switch", () -> x.without(0));
        x.go(1);
        Check.due("past the moments of the process 1", 6, x.next());
        Check.noElement("looking first, without the other switch", () -> x.without(1));
        x.go(1);
        Check.due("past the moments of the process 1", 6, x.next());
        x.go(1);
        x.branch();
        x.forward(9);
        Check.due("looking first, at a branch without them", true, x.isSound());
        x.go(1);
        Check.due("in the branch", 2, x.next());
        Check.due("looking first, at a branch without them", true, x.isSound());
        x.select(0);
        x.go(1);
        Check.due("past the moments of the process 1", 6, x.next());
    }

    // ---- Log ----

    private static void events() {
        TERMS.says("Log. Events are: 'f' a number is fed to the console; 't' the clock gets a number;"
            + " 'x' the other process is the present one, if it is not over;"
            + " 'm' a cell is changed; 'p' an instruction is replaced from then on.");
        Rewinder x = Check.begun("k 0 1; k 0 2; k 0 3", 0);
        x.feed(LEAST);
        x.tick(MOST);
        x.swap();
        x.change(63, LEAST);
        x.patch(2, 'k', 3, 999, 0);
        String kinds = "ftxmp";
        for (int i = 0; i < 5; i++) {
            Check.due("its kind", kinds.charAt(i), x.kindOf(i));
        }
        Check.index("no sixth", () -> x.kindOf(5));
        Check.due("f", 1, x.console());
        Check.due("t", MOST, x.clock());
        Check.due("x", 1, x.present());
        Check.due("m", LEAST, x.cell(63));
        x.forward(3);
        Check.due("p", 999, x.register(1, 3));
        Check.due("p, instead of the one before", 2, x.register(1, 0));
        Check.due("the process 1 is over", 0, x.present());
        x.swap();
        Check.due("x, if it is not over", 0, x.present());
        x.patch(0, 'k', 0, 50, 0);
        x.forward(1);
        x.patch(0, 'k', 0, 60, 0);
        Check.due("p, from then on alone", 50, x.register(0, 0));
        x.go(0);
        x.forward(4);
        Check.due("p, the one of then", 50, x.register(0, 0));
    }

    private static void eventsAtTheEnd() {
        TERMS.says("They come at the end of a run alone, and are kept with its count, in their order,"
            + " also those that change nothing.");
        Rewinder x = Check.loop(20);
        x.go(19);
        Check.unsupported("feed() one ahead of the end", () -> x.feed(1));
        Check.unsupported("tick() one ahead of the end", () -> x.tick(1));
        Check.unsupported("swap() one ahead of the end", x::swap);
        Check.unsupported("change() one ahead of the end", () -> x.change(0, 1));
        Check.unsupported("patch() one ahead of the end", () -> x.patch(0, 'y', 0, 0, 0));
        Check.due("none was kept", 0, x.events());
        x.go(20);
        x.swap();
        x.tick(1);
        x.patch(0, 'y', 0, 0, 0);
        x.feed(1);
        x.change(0, 1);
        x.forward(1);
        x.change(0, 2);
        String kinds = "xtpfmm";
        for (int i = 0; i < 6; i++) {
            Check.due("in their order", kinds.charAt(i), x.kindOf(i));
            Check.due("with its count", i < 5 ? 20 : 21, x.countOf(i));
        }
        x.go(20);
        Check.unsupported("events do not make it the end", () -> x.feed(1));
        x.branch();
        Check.due("a branch has its end there", 2, x.feed(1));
        Rewinder first = Check.begun(Check.LOOP);
        Check.due("the moment 0 is an end", 1, first.feed(1));
        first.forward(1);
        first.go(0);
        Check.unsupported("and is none then", () -> first.feed(1));
        Rewinder inOrder = Check.begun(Check.LOOP);
        inOrder.forward(1);
        inOrder.change(5, 1);
        inOrder.change(5, 2);
        inOrder.forward(1);
        inOrder.go(1);
        Check.due("done again in their order", 2, inOrder.cell(5));
    }

    private static void eventsThatChangeNothing() {
        Rewinder x = Check.begun("k 0 1; j 0 0");
        long sum = x.sum();
        Check.due("the same clock", 0, x.tick(0));
        Check.due("the other one is over", 0, x.swap());
        Check.due("the same number", 0, x.change(9, 0));
        Check.due("the same instruction", 'k', x.patch(0, 'k', 0, 1, 0));
        Check.due("nothing is changed", sum, x.sum());
        Check.due("kept all the same", 4, x.events());
        x.forward(32);
        for (int i = 0; i < 4; i++) {
            int event = i;
            Check.due("kept", "txmp".charAt(i), x.kindOf(i));
            Check.noElement("nothing without it", () -> x.without(event));
        }
        Rewinder over = new Rewinder();
        over.begin();
        Check.due("both are over", 0, over.swap());
        Check.due("kept all the same", 'x', over.kindOf(0));
    }

    private static void keptSums() {
        TERMS.says("A run also keeps the sum of its state at each count that can be divided by 32, 0 too,"
            + " behind the step and ahead of the events of this count.");
        foundOut("an event of 0, up to 31", 0, 31, -1);
        foundOut("an event of 0, up to 32", 0, 32, 32);
        foundOut("an event of 31, up to 31", 31, 31, -1);
        foundOut("an event of 31, up to 32", 31, 32, 32);
        foundOut("an event of 32, up to 32", 32, 32, -1);
        foundOut("an event of 32, up to 63", 32, 63, -1);
        foundOut("an event of 32, up to 64", 32, 64, 64);
        foundOut("an event of 33, up to 63", 33, 63, -1);
        foundOut("an event of 63, up to 64", 63, 64, 64);
        foundOut("an event of 64, up to 95", 64, 95, -1);
        foundOut("an event of 64, up to 96", 64, 96, 96);
        foundOut("an event of 0, up to 0: ahead of the events of 0", 0, 0, -1);
    }

    /** At which count a run is found out without its one event, or -1. */
    private static void foundOut(String what, int count, int end, int due) {
        Rewinder x = Check.loop(count);
        x.tick(9);
        if (end > count) {
            Check.stepForward(x, end - count);
        }
        if (due < 0) {
            Check.noElement(what, () -> x.without(0));
            Check.noElement(what, () -> x.with(0, 8));
        } else {
            Check.due(what, due, x.without(0));
            Check.due(what, due, x.with(0, 8));
        }
        Check.noElement(what + ": the same number", () -> x.with(0, 9));
    }

    private static void keptSumsOfOneCount() {
        Rewinder x = Check.loop(32);
        x.tick(1);
        x.tick(2);
        x.feed(3);
        Check.stepForward(x, 32);
        x.tick(2);
        Check.noElement("another one came behind it", () -> x.without(0));
        Check.due("the last one of the count", 64, x.without(1));
        Check.due("each one of the count", 64, x.without(2));
        Check.noElement("one of 64, ahead of which the sum stands", () -> x.without(3));
        x.go(32);
        x.branch();
        Check.noElement("a branch has the sum of its end, ahead of the events", () -> x.without(2));
        x.forward(31);
        Check.noElement("and none up to 63", () -> x.without(2));
        x.forward(1);
        Check.due("and its own one at 64", 64, x.without(2));
    }

    private static void lastKeptSum() {
        Rewinder x = Check.loop(383);
        x.tick(1);
        x.forward(1);
        x.tick(2);
        Check.due("the sum of 384", 384, x.without(0));
        x.forward(16);
        Check.due("400 cannot be divided by 32", 400, x.end());
        Check.noElement("so the events of 384 are not found out", () -> x.without(1));
        Check.due("the one of 383 is", 384, x.without(0));
    }

    // ---- Sum ----

    /** The sum of numbers, without longs that go round. */
    private static long sumOf(List<Integer> items) {
        BigInteger sum = BigInteger.valueOf(7);
        for (int item : items) {
            sum = sum.multiply(BigInteger.valueOf(31)).add(BigInteger.valueOf(item));
        }
        return sum.longValue();
    }

    /** The numbers of a state, as the document lists them. */
    private static List<Integer> items(Rewinder x, int[] cells, int... console) {
        List<Integer> items = new ArrayList<>();
        for (int cell : cells) {
            items.add(cell);
        }
        for (int process = 0; process < 2; process++) {
            for (int register = 0; register < 4; register++) {
                items.add(x.register(process, register));
            }
            items.add(x.place(process));
            items.add(x.isOver(process) ? 1 : 0);
            int frames = x.frames(process);
            items.add(frames);
            for (int frame = 0; frame < frames; frame++) {
                items.add(x.returnsTo(process, frame));
            }
        }
        items.add(x.present());
        items.add(x.clock());
        items.add(console.length);
        for (int number : console) {
            items.add(number);
        }
        int outputs = x.outputs();
        items.add(outputs);
        for (int i = 0; i < outputs; i++) {
            items.add(x.outputAt(i));
        }
        return items;
    }

    private static void sums() {
        TERMS.says("Sum. That of a state is 7 at first, then 31 times itself plus the next one, as longs that go round,"
            + " of: the 64 cells; for each process its registers, its place, 1 if it is over and otherwise 0,"
            + " the number of its frames and where they return, the last one first; the present process; the clock;"
            + " the number of numbers in the console and these; the number of numbers that were put out and these.");
        Rewinder none = new Rewinder();
        none.begin();
        Check.due("without code", sumOf(items(none, new int[64])), none.sum());
        Check.due("its numbers", 64 + 7 + 7 + 4, items(none, new int[64]).size());
        Rewinder x = Check.begun("c 0 1; c 0 2; c 0 3; c 0 4; c 0 5; c 0 6; o 0; i 1; o 1; y; c 0 11; c 0 12; y", 10);
        int[] cells = new int[64];
        Check.due("at first", sumOf(items(x, cells)), x.sum());
        x.feed(5);
        Check.due("one number in the console", sumOf(items(x, cells, 5)), x.sum());
        x.feed(-6);
        Check.due("two numbers", sumOf(items(x, cells, 5, -6)), x.sum());
        x.tick(-1);
        Check.due("the clock", sumOf(items(x, cells, 5, -6)), x.sum());
        x.change(0, 3);
        cells[0] = 3;
        Check.due("the first cell", sumOf(items(x, cells, 5, -6)), x.sum());
        x.change(63, 4);
        cells[63] = 4;
        Check.due("the last cell", sumOf(items(x, cells, 5, -6)), x.sum());
        for (int frames = 1; frames <= 6; frames++) {
            x.forward(1);
            Check.due("frames", frames, x.frames(0));
            Check.due("the last one first: " + frames, sumOf(items(x, cells, 5, -6)), x.sum());
        }
        x.forward(1);
        Check.due("one was put out", sumOf(items(x, cells, 5, -6)), x.sum());
        x.forward(1);
        Check.due("one is gone from the console", sumOf(items(x, cells, -6)), x.sum());
        x.forward(2);
        Check.due("the process 1", 1, x.present());
        Check.due("two were put out", sumOf(items(x, cells, -6)), x.sum());
        x.forward(2);
        Check.due("frames of both", sumOf(items(x, cells, -6)), x.sum());
        x.forward(1);
        Check.due("the process 0, too far", 0, x.present());
        x.forward(1);
        Check.due("is over, with frames", true, x.isOver(0));
        Check.due("over", sumOf(items(x, cells, -6)), x.sum());
    }

    private static void sumsOfExtremes() {
        Rewinder x = Check.begun("k 3 1; i 0; o 0; s 1 0; + 1 1 3; j 3 1");
        for (int i = 0; i < 70; i++) {
            x.feed(i % 2 == 0 ? LEAST : MOST);
        }
        x.tick(LEAST);
        x.feed(LEAST);
        x.feed(MOST);
        Check.stepForward(x, 1 + 5 * 70);
        Check.due("the cells are full", MOST, x.cell(63));
        Check.due("70 were put out", 70, x.outputs());
        int[] cells = new int[64];
        for (int cell = 0; cell < 64; cell++) {
            cells[cell] = x.cell(cell);
        }
        Check.due("goes round", sumOf(items(x, cells, LEAST, MOST)), x.sum());
        x.change(7, 0);
        cells[7] = 0;
        x.tick(MOST);
        Check.due("goes round", sumOf(items(x, cells, LEAST, MOST)), x.sum());
        x.forward(1);
        Check.due("one less in the console", sumOf(items(x, cells, MOST)), x.sum());
        Check.due("sound", true, x.isSound());
    }
}
