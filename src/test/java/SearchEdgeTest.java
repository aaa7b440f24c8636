import java.util.ArrayList;
import java.util.List;

/** The edges that the promises 36 to 58 name in their own sentences. */
public final class SearchEdgeTest {
    private static final int MOST = Integer.MAX_VALUE;
    private static final int LEAST = Integer.MIN_VALUE;
    private static final String STEPS = "Returns the number of steps.";
    private static final String COUNT = "Returns the count.";

    public static void main(String[] args) {
        lastWrite();
        writerOf();
        callerOf();
        writes();
        firstAbove();
        snapshots();
        snapshotAt();
        pages();
        pagesOfThinned();
        again();
        branch();
        select();
        difference();
        differenceOfNothing();
        slice();
        hangsOn();
        events();
        kindOf();
        countOf();
        withoutByASum();
        withoutByTheEnd();
        with();
        sum();
        againShare();
        meanDistance();
        isSound();
        Document.areTold(36, Document.promises());
        Check.finish();
    }

    /** Sets the cell 0, calls, and sets it there: at the steps 1, 3 and, behind the return, 5. */
    private static Rewinder writing() {
        return Check.begun("s 0 1; c 0 4; s 0 1; j 1 0; s 0 1; r");
    }

    private static void lastWrite() {
        Document.about(36, "Returns the moment ahead of the last step up to the present moment that was an 's'"
            + " of a cell.", "Returns the moment.");
        Rewinder x = writing();
        Check.noElement("none at 0", () -> x.lastWrite(0));
        int[] due = {0, 0, 2, 2, 4};
        for (int moment = 1; moment <= 5; moment++) {
            x.forward(1);
            Check.due("at " + moment, due[moment - 1], x.lastWrite(0));
        }
        x.change(0, 5);
        Check.due("a change is no step", 4, x.lastWrite(0));
        Check.noElement("none of the next cell", () -> x.lastWrite(1));
        x.go(4);
        Check.due("at 4 again", 2, x.lastWrite(0));
        x.go(0);
        Check.noElement("none at 0 again", () -> x.lastWrite(0));
    }

    private static void writerOf() {
        Document.about(37, "Returns the place of the instruction of this step.", "Returns the place.");
        Rewinder x = writing();
        Check.noElement("none at 0", () -> x.writerOf(0));
        int[] due = {0, 0, 4, 4, 2};
        for (int moment = 1; moment <= 5; moment++) {
            x.forward(1);
            Check.due("at " + moment, due[moment - 1], x.writerOf(0));
        }
        Check.noElement("none of the next cell", () -> x.writerOf(1));
        Rewinder last = Check.begun("k 1 1; j 1 39" + "; r".repeat(37) + "; s 0 1");
        last.forward(3);
        Check.due("the last place", 39, last.writerOf(0));
    }

    private static void callerOf() {
        Document.about(38, "Returns to where the last frame returned of the process of this step, ahead of it.",
            "Returns the place, or -1 without a frame.");
        Rewinder x = writing();
        Check.noElement("none at 0", () -> x.callerOf(0));
        int[] due = {-1, -1, 2, 2, -1};
        for (int moment = 1; moment <= 5; moment++) {
            x.forward(1);
            Check.due("at " + moment, due[moment - 1], x.callerOf(0));
        }
        Check.noElement("none of the next cell", () -> x.callerOf(1));
        Rewinder deep = Check.begun("c 0 1; c 0 2; c 0 3; c 0 4; c 0 5; c 0 6; s 0 0; r");
        deep.forward(7);
        Check.due("the last of six", 6, deep.callerOf(0));
        deep.forward(2);
        Check.due("one that was gone meanwhile is asked again", 5, deep.callerOf(0));
        Rewinder other = Check.begun("c 0 1; y; c 0 4; r; s 0 0; y", 2);
        other.forward(4);
        Check.due("of the process of the step", 3, other.callerOf(0));
        Rewinder bare = Check.begun("c 0 1; y; s 0 0; y", 2);
        bare.forward(3);
        Check.due("which has no frame, though the other one has", -1, bare.callerOf(0));
        Rewinder end = Check.begun("k 0 1; j 0 39; s 1 0; r" + "; r".repeat(35) + "; c 0 2");
        end.forward(4);
        Check.due("the last place", 40, end.callerOf(0));
    }

    private static void writes() {
        Document.about(39, "Returns how many steps up to the present moment were an 's' of a cell.", STEPS);
        Rewinder x = writing();
        int[] due = {0, 1, 1, 2, 2, 3};
        for (int moment = 0; moment <= 5; moment++) {
            Check.due("at " + moment, due[moment], x.writes(0));
            Check.due("of the next cell", 0, x.writes(1));
            x.forward(1);
        }
        Rewinder all = Check.begun("k 1 1; s 0 1; j 1 1");
        Check.stepForward(all, 400);
        Check.due("each second one of 400", 200, all.writes(0));
        all.go(399);
        Check.due("the 400th was one", 199, all.writes(0));
    }

    private static void firstAbove() {
        Document.about(40, "Returns the first moment up to the present one at which a cell was greater than a number.",
            "Returns the moment.");
        Rewinder x = Check.begun("k 1 5; s 0 1; k 1 4; s 0 1; j 3 0");
        x.forward(2);
        Check.due("this one included", 2, x.firstAbove(0, 4));
        Check.noElement("equal is not greater", () -> x.firstAbove(0, 5));
        x.go(1);
        Check.noElement("up to the present one", () -> x.firstAbove(0, 4));
        Check.due("0 is greater at 0", 0, x.firstAbove(0, -1));
        x.go(2);
        x.forward(2);
        Check.due("was greater, and is no more", 2, x.firstAbove(0, 4));
        Check.due("the first one", 2, x.firstAbove(0, 3));
        x.change(0, MOST);
        Check.due("behind the events of the moment", 4, x.firstAbove(0, MOST - 1));
        Check.noElement("nothing is greater", () -> x.firstAbove(0, MOST));
        x.change(0, 5);
        Check.noElement("a moment is behind all of them", () -> x.firstAbove(0, 5));
        Rewinder zero = Check.begun("k 0 1");
        zero.change(9, LEAST + 1);
        Check.due("at 0, behind its events", 0, zero.firstAbove(9, LEAST));
        Check.noElement("not 0 any more", () -> zero.firstAbove(9, LEAST + 1));
    }

    private static List<Integer> counts(Rewinder x) {
        List<Integer> counts = new ArrayList<>();
        for (int i = 0; i < x.snapshots(); i++) {
            counts.add(x.snapshotAt(i));
        }
        return counts;
    }

    private static void snapshots() {
        Document.about(41, "Returns the number of snapshots of the present run.", "Returns the number of snapshots.");
        int[][] rows = {{1, 1}, {15, 1}, {16, 2}, {63, 4}, {64, 5}, {79, 5}, {80, 5}, {127, 5}, {128, 6}, {255, 7},
            {256, 8}, {304, 8}, {319, 8}, {320, 8}, {400, 8}};
        for (int[] row : rows) {
            Rewinder x = Check.loop(row[0]);
            Check.due("at " + row[0], row[1], x.snapshots());
            x.go(0);
            Check.due("wherever one is", row[1], x.snapshots());
            x.branch();
            Check.due("of the present run", 1, x.snapshots());
        }
    }

    private static void snapshotAt() {
        Document.about(42, "Returns the count of a snapshot of the present run.", COUNT);
        Rewinder x = Check.loop(64);
        Check.due("the first one", 0, x.snapshotAt(0));
        Check.due("the last one", 64, x.snapshotAt(4));
        Check.index("none behind it", () -> x.snapshotAt(5));
        x.go(63);
        Check.due("wherever one is", 64, x.snapshotAt(4));
        x.branch();
        Check.due("of the present run", 48, x.snapshotAt(3));
        Check.index("which has no more", () -> x.snapshotAt(4));
        Check.due("by rising counts", List.of(0, 16, 32, 48), counts(x));
    }

    private static void pages() {
        Document.about(43, "Returns how many pages the snapshots of the present run have: for each of the 8, the first"
            + " one counts, and then each one for which a cell of it was set by an 's' or changed since the one ahead"
            + " of it.", "Returns the number of pages.");
        Rewinder x = Check.begun("k 1 1; s 0 1; j 1 2");
        Check.due("the first one of each of the 8", 8, x.pages());
        x.forward(15);
        Check.due("no snapshot since", 8, x.pages());
        x.forward(1);
        Check.due("an 's'", 9, x.pages());
        x.forward(16);
        Check.due("none since the one ahead of it", 9, x.pages());
        x.change(0, 1);
        x.change(7, 2);
        x.change(8, 0);
        Check.due("no snapshot since", 9, x.pages());
        x.forward(15);
        Check.due("no snapshot since", 9, x.pages());
        x.change(8, 0);
        x.change(63, 5);
        x.forward(1);
        Check.due("three pages, one of them twice", 12, x.pages());
        x.change(16, 1);
        Check.due("behind the last snapshot", 12, x.pages());
        x.go(0);
        Check.due("wherever one is", 12, x.pages());
        x.go(47);
        x.branch();
        Check.due("of the present run", 9, x.pages());
        x.forward(1);
        Check.due("of the present run, with its own one", 12, x.pages());
        Rewinder first = Check.begun("s 0 0; k 1 1; j 1 2");
        first.forward(16);
        Check.due("one 's', the step 1", 9, first.pages());
        for (int step : new int[] {3, 15, 16, 17, 32, 385, 400}) {
            int behind = (step + 15) / 16 * 16;
            for (int cell : new int[] {0, 7, 8, 63}) {
                Check.due("one 's', the step " + step, 9, pagesOfOne(step, cell, behind));
            }
            Check.due("an 's', the step " + step + ", behind the last snapshot", 8, pagesOfOne(step, 63, behind - 1));
        }
    }

    /** The pages of a run that has one 's', at a step from 3 on, and goes on up to an end. */
    private static int pagesOfOne(int step, int cell, int end) {
        Rewinder x = Check.begun("k 1 1; k 0 " + cell + "; j 1 2; j 1 2");
        Check.stepForward(x, Math.min(end, step - 1));
        x.patch(2, 's', 0, 1, 0);
        Check.stepForward(x, Math.min(end, step) - x.now());
        x.patch(2, 'j', 1, 2, 0);
        Check.stepForward(x, end - x.now());
        return x.pages();
    }

    private static void pagesOfThinned() {
        Rewinder x = Check.begun("k 1 1; j 1 1");
        x.forward(15);
        x.change(0, 1);
        x.forward(16);
        x.change(0, 2);
        x.change(8, 2);
        x.forward(48);
        Check.due("with the one of 16", 11, x.pages());
        x.forward(1);
        Check.due("without it, the one of 32 has both at once", 10, x.pages());
        x.forward(16);
        Check.due("without the one of 32, the one of 48 has them", 10, x.pages());
        x.change(0, 3);
        x.forward(16);
        Check.due("a change at 96", 11, x.pages());
    }

    private static void again() {
        Document.about(44, "Returns how many steps were done again since the first run was begun.", STEPS);
        Rewinder x = Check.loop(20);
        Check.due("none", 0, x.again());
        x.back(1);
        Check.due("three, from 16", 3, x.again());
        x.branch();
        Check.due("a branch does none", 3, x.again());
        x.back(1);
        Check.due("all runs count", 5, x.again());
        x.select(0);
        Check.due("to the end of the other one", 9, x.again());
        x.begin();
        Check.due("since the run was begun", 0, x.again());
        Check.stepForward(x, 15);
        x.back(1);
        Check.due("14 from 0", 14, x.again());
    }

    private static void branch() {
        Document.about(45, "Makes a branch at the present moment.", "Returns the number of the run.");
        Rewinder x = Check.loop(400);
        Check.due("at the end", 1, x.branch());
        Check.due("its end", 400, x.end());
        x.go(0);
        Check.due("at 0", 2, x.branch());
        Check.due("its end", 0, x.end());
        x.select(0);
        x.go(399);
        Check.due("one ahead of the end", 3, x.branch());
        Check.due("its end", 399, x.end());
        Check.due("the fifth run", 4, x.branch());
        Check.unsupported("no sixth", x::branch);
        Check.due("the fifth is the present one", 4, x.select(0));
        Check.due("the first one is as it was", 400, x.end());
    }

    private static void select() {
        Document.about(46, "Makes a run the present one, at its end, to which one goes from its last snapshot.",
            "Returns the present run before.");
        int[][] rows = {{1, 1}, {15, 15}, {16, 0}, {17, 1}, {31, 15}, {32, 0}, {399, 15}, {400, 0}};
        for (int[] row : rows) {
            Rewinder x = Check.loop(row[0]);
            Check.due("itself, at its end", 0, x.select(0));
            Check.due("from its last snapshot, to " + row[0], row[1], x.again());
            x.branch();
            Check.due("before", 1, x.select(0));
            Check.due("at its end", row[0], x.now());
            Check.due("from its last snapshot again", 2 * row[1], x.again());
        }
        Rewinder none = Check.begun("k 0 1");
        Check.index("no other run", () -> none.select(1));
        Check.due("without a step", 0, none.select(0));
        Check.due("there", 0, none.now());
        Rewinder ended = Check.loop(16);
        ended.feed(1);
        ended.branch();
        ended.feed(2);
        ended.select(0);
        Check.due("behind the events of its end", 1, ended.console());
        ended.select(1);
        Check.due("behind the events of its end", 2, ended.console());
    }

    private static void difference() {
        Document.about(47, "Returns the first moment at which the sums of the present run and another one differ.",
            "Returns the moment.");
        Rewinder x = Check.loop(10);
        x.go(9);
        x.branch();
        x.patch(3, 'k', 3, 5, 0);
        Check.noElement("the code is not in the sum", () -> x.difference(0));
        x.forward(1);
        Check.due("the last moment of both", 10, x.difference(0));
        x.select(0);
        Check.due("from the other one", 10, x.difference(1));
        x.branch();
        x.patch(1, 'k', 3, 5, 0);
        x.forward(1);
        Check.noElement("one behind the end of the other one", () -> x.difference(0));
        x.select(0);
        Check.noElement("one behind the end of this one", () -> x.difference(2));
        x.forward(1);
        Check.due("the other one has it now, too", 11, x.difference(2));
        x.go(0);
        Check.due("wherever one is", 11, x.difference(2));
        Check.due("the first one of all", 10, x.difference(1));
        x.branch();
        Check.noElement("at its end, as the other one", () -> x.difference(0));
        x.tick(1);
        Check.due("behind the events of 0", 0, x.difference(0));
        x.tick(0);
        Check.noElement("behind all of them", () -> x.difference(0));
    }

    private static void differenceOfNothing() {
        Rewinder x = Check.begun("k 0 1; k 0 2");
        Check.noElement("itself", () -> x.difference(0));
        x.branch();
        x.forward(9);
        Check.noElement("one that has no step", () -> x.difference(0));
        x.select(0);
        x.forward(9);
        Check.noElement("the same steps", () -> x.difference(1));
        Check.index("no run 2", () -> x.difference(2));
    }

    private static void slice() {
        Document.about(48, "Returns the number of steps on which a cell hangs.", STEPS);
        Rewinder x = Check.begun("k 1 1; + 0 0 1; s 3 0; j 1 1");
        Check.due("none at first", 0, x.slice(0));
        x.forward(2);
        Check.due("none yet", 0, x.slice(0));
        x.forward(1);
        Check.due("all three", 3, x.slice(0));
        Check.due("none of the next cell", 0, x.slice(1));
        Check.stepForward(x, 396);
        Check.due("the 's', all 133 '+', and the 'k'", 135, x.slice(0));
        x.forward(1);
        Check.due("a 'j' at 400", 135, x.slice(0));
        x.change(0, 133);
        Check.due("changed", 0, x.slice(0));
        x.go(398);
        Check.due("ahead of the last 's'", 134, x.slice(0));
        x.go(0);
        Check.due("none at 0", 0, x.slice(0));
        Rewinder all = Check.begun("k 0 0; + 1 1 1; s 0 1; j 2 0");
        all.forward(3);
        for (int i = 0; i < 3; i++) {
            Check.due("each step once", true, all.hangsOn(0, i + 1));
        }
        Check.due("each step once", 3, all.slice(0));
    }

    private static void hangsOn() {
        Document.about(49, "Returns whether a cell hangs on a step.", "Returns whether it does.");
        Rewinder x = Check.begun("k 1 1; + 0 0 1; s 3 0; j 1 1");
        Check.stepForward(x, 399);
        int[] on = {1, 2, 5, 62, 65, 128, 191, 194, 395, 398, 399};
        int[] off = {0, 3, 4, 63, 64, 66, 127, 129, 192, 193, 396, 397, 400};
        for (int step : on) {
            Check.due("on " + step, true, x.hangsOn(0, step));
        }
        for (int step : off) {
            Check.due("not on " + step, false, x.hangsOn(0, step));
        }
        Check.due("the next cell hangs on nothing", false, x.hangsOn(1, 1));
        x.go(398);
        Check.due("not on a step behind the present moment", false, x.hangsOn(0, 399));
        Check.due("but on the one ahead", true, x.hangsOn(0, 396));
    }

    private static void events() {
        Document.about(50, "Returns the number of events of the present run.", "Returns the number of events.");
        Rewinder x = Check.loop(5);
        Check.due("none", 0, x.events());
        x.tick(0);
        Check.due("one that changes nothing", 1, x.events());
        x.forward(1);
        x.tick(1);
        x.go(5);
        Check.due("wherever one is", 2, x.events());
        Check.unsupported("one that is refused", () -> x.tick(2));
        Check.due("does not count", 2, x.events());
        x.branch();
        Check.due("of the present run", 1, x.events());
        Rewinder many = Check.begun("k 0 1");
        for (int i = 1; i <= 250; i++) {
            many.tick(i);
            Check.due("many", i, many.events());
        }
    }

    private static void kindOf() {
        Document.about(51, "Returns the kind of an event.", "Returns 'f', 't', 'x', 'm' or 'p'.");
        Rewinder x = Check.begun("k 0 1; k 0 2");
        x.patch(1, 'r', 0, 0, 0);
        x.change(0, 0);
        x.swap();
        x.tick(0);
        x.feed(0);
        for (int i = 0; i < 5; i++) {
            Check.due("the event " + i, "pmxtf".charAt(i), x.kindOf(i));
        }
        Check.index("no sixth", () -> x.kindOf(5));
        x.forward(1);
        x.branch();
        x.swap();
        Check.due("of the present run", 'x', x.kindOf(5));
        x.select(0);
        Check.index("not of the other one", () -> x.kindOf(5));
        x.tick(1);
        Check.due("which has its own", 't', x.kindOf(5));
    }

    private static void countOf() {
        Document.about(52, "Returns the count of an event.", COUNT);
        Rewinder x = Check.begun(Check.LOOP);
        x.tick(1);
        Check.due("0", 0, x.countOf(0));
        x.forward(16);
        x.tick(2);
        x.tick(3);
        Check.due("16", 16, x.countOf(1));
        Check.due("16 again", 16, x.countOf(2));
        Check.stepForward(x, 384);
        x.tick(4);
        x.go(0);
        Check.due("400", 400, x.countOf(3));
        Check.index("no fifth", () -> x.countOf(4));
    }

    private static void withoutByASum() {
        Document.about(53, "Returns at which count the present run is found out, done from the beginning without"
            + " an event: the first one at which the sum is not the one that was kept, or at which no step can be done"
            + " any more ahead of the end.", COUNT);
        Rewinder x = Check.begun(Check.LOOP);
        x.tick(1);
        Check.noElement("no step yet", () -> x.without(0));
        x.forward(31);
        Check.noElement("31 steps", () -> x.without(0));
        x.forward(1);
        Check.due("32 steps", 32, x.without(0));
        x.forward(60);
        Check.due("the first one", 32, x.without(0));
        x.go(0);
        Check.due("wherever one is", 32, x.without(0));
        x.branch();
        Check.noElement("the present run", () -> x.without(0));
        Rewinder healed = Check.loop(31);
        healed.tick(1);
        healed.tick(2);
        healed.forward(9);
        Check.noElement("the sum is the same ahead of the count", () -> healed.without(0));
        Check.due("the last one is missed", 32, healed.without(1));
    }

    private static void withoutByTheEnd() {
        Rewinder ahead = Check.begun("i 0; j 0 3; r; k 1 1; k 1 2");
        ahead.feed(0);
        ahead.feed(1);
        Check.due("over by the 'r'", 3, ahead.forward(9));
        Check.noElement("it goes on longer, up to the same end", () -> ahead.without(0));
        Rewinder four = Check.begun("i 0; j 0 3; r; k 1 1; k 1 2");
        four.feed(1);
        Check.due("four steps", 4, four.forward(9));
        Check.due("with 0 it is over one ahead of the end", 3, four.with(0, 0));
        Rewinder three = Check.begun("i 0; j 0 3; r; k 1 1");
        three.feed(1);
        Check.due("three steps", 3, three.forward(9));
        Check.noElement("with 0 it is over at the end", () -> three.with(0, 0));
        Rewinder cell = Check.begun("l 0 3; j 0 3; r; k 1 1; k 1 2");
        cell.change(0, 1);
        cell.forward(9);
        Check.due("without the change it is over one ahead of the end", 3, cell.without(0));
        Rewinder code = Check.begun("r; k 1 1");
        code.patch(0, 'k', 0, 1, 0);
        code.forward(9);
        Check.due("without the patch it is over one ahead of the end", 1, code.without(0));
        Rewinder turned = Check.begun("r; k 0 1; k 0 2", 1);
        turned.swap();
        Check.due("both in the other order", 3, turned.forward(9));
        Check.noElement("as many steps without the switch", () -> turned.without(0));
    }

    private static void with() {
        Document.about(54, "Returns the same for a run in which an event has another number: what is fed, the clock,"
            + " or what a cell gets.", COUNT);
        Rewinder x = Check.begun("k 2 1; j 2 1");
        x.feed(1);
        x.tick(2);
        x.change(63, 3);
        x.swap();
        x.patch(0, 'k', 2, 1, 0);
        x.forward(31);
        Check.noElement("31 steps", () -> x.with(0, 9));
        x.forward(1);
        for (int event = 0; event < 3; event++) {
            int one = event;
            Check.due("another number", 32, x.with(event, 9));
            Check.due("the least", 32, x.with(event, LEAST));
            Check.due("the greatest", 32, x.with(event, MOST));
            Check.noElement("the same number", () -> x.with(one, one + 1));
        }
        Check.unsupported("'x' has no number", () -> x.with(3, 0));
        Check.unsupported("'p' has no number", () -> x.with(4, 0));
        Check.index("no sixth", () -> x.with(5, 0));
        Check.due("the run is as it was", 3, x.cell(63));
        Check.due("and so is its log", 5, x.events());
        Rewinder counted = Check.begun("i 0; k 1 -1; + 0 0 1; j 0 2");
        counted.feed(5);
        Check.due("12 steps", 12, counted.forward(20));
        Check.due("one round less", 10, counted.with(0, 4));
        Check.due("one round alone", 4, counted.with(0, 1));
        Check.noElement("one round more, up to the same end", () -> counted.with(0, 6));
    }

    private static void sum() {
        Document.about(55, "Returns the sum of the present state.", "Returns the sum.");
        Rewinder x = Check.loop(32);
        long ahead = x.sum();
        x.tick(1);
        Check.due("behind its events", ahead + 31L * 31L, x.sum());
        x.feed(5);
        Check.due("with a number in the console", false, ahead == x.sum());
        long behind = x.sum();
        x.back(1);
        Check.due("another moment", false, behind == x.sum());
        x.forward(1);
        Check.due("the same moment", behind, x.sum());
        x.branch();
        Check.due("the same state", behind, x.sum());
    }

    private static void againShare() {
        Document.about(56, "Returns the share of steps that were done again.",
            "Returns their number divided by that and the number of new steps of all runs since the first one was"
            + " begun, both converted to float.");
        Rewinder x = Check.begun(Check.LOOP);
        Check.arithmetic("no steps", x::againShare);
        x.forward(1);
        Check.due("one new step", 0.0f, x.againShare());
        x.forward(2);
        x.back(1);
        Check.due("two again, three new", 2.0f / 5.0f, x.againShare());
        x.branch();
        x.forward(1);
        Check.due("one new of another run", 2.0f / 6.0f, x.againShare());
        x.select(0);
        Check.due("three again", 5.0f / 9.0f, x.againShare());
        x.begin();
        Check.arithmetic("since the first one was begun", x::againShare);
        Rewinder far = Check.loop(15);
        for (int i = 0; i < 200; i++) {
            far.back(1);
            far.forward(1);
        }
        Check.due("many", 3000.0f / 3015.0f, far.againShare());
    }

    private static void meanDistance() {
        Document.about(57, "Returns the mean distance of the snapshots of the present run.",
            "Returns the count of the last one divided by their number less 1, both converted to double.");
        Check.arithmetic("just one at 0", Check.begun(Check.LOOP)::meanDistance);
        Check.arithmetic("just one at 15", Check.loop(15)::meanDistance);
        Check.due("two", 16.0, Check.loop(16).meanDistance());
        Check.due("five", 64.0 / 4.0, Check.loop(64).meanDistance());
        Check.due("five, one is gone", 80.0 / 4.0, Check.loop(80).meanDistance());
        Check.due("six", 128.0 / 5.0, Check.loop(128).meanDistance());
        Check.due("eight", 304.0 / 7.0, Check.loop(304).meanDistance());
        Check.due("eight", 400.0 / 7.0, Check.loop(400).meanDistance());
        Rewinder x = Check.loop(20);
        x.go(15);
        Check.due("wherever one is", 16.0, x.meanDistance());
        x.branch();
        Check.arithmetic("of the present run", x::meanDistance);
    }

    private static void isSound() {
        Document.about(58, "Checks whether the present state has the sum of a run from the beginning up to this moment,"
            + " and the cells have what the last 's' or change of each one up to it gave them, or 0.",
            "Returns whether it has.");
        Rewinder none = new Rewinder();
        none.begin();
        Check.due("without code", true, none.isSound());
        Rewinder changed = Check.begun("k 0 1");
        changed.change(0, 5);
        Check.due("a change as the first of all events", true, changed.isSound());
        changed.forward(1);
        Check.due("a change as the first of all events", true, changed.isSound());
        Rewinder x = Check.begun("k 1 -1; s 1 1; + 1 1 1; k 2 1; s 2 1; i 3; j 2 1");
        for (int round = 0; round < 8; round++) {
            x.feed(round);
            x.change(63, round);
            x.change(round, -1);
            x.patch(3, 'k', 2, round + 1, 0);
            Check.due("behind events", true, x.isSound());
            x.forward(50);
            Check.due("behind steps", true, x.isSound());
            x.back(round * 7 + 1);
            Check.due("back", true, x.isSound());
            if (round % 2 == 0) {
                x.branch();
                Check.due("in a branch", true, x.isSound());
            }
            x.go(x.end());
        }
        for (int run = 0; run < 5; run++) {
            x.select(run);
            Check.due("selected", true, x.isSound());
            x.go(0);
            Check.due("at 0", true, x.isSound());
        }
    }
}
