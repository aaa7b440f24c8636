import java.util.ArrayList;
import java.util.List;

/** The edges that the document names in its 'Terms', under 'Snapshots', 'Breaks', 'Branches' and 'Slices'. */
public final class KeepEdgeTest {
    private static final Document TERMS = Document.part("Snapshots. ", "Exceptions. ");
    private static final int MOST = Integer.MAX_VALUE;
    private static final int LEAST = Integer.MIN_VALUE;

    public static void main(String[] args) {
        taken();
        takenAheadOfEvents();
        thinnedAt64();
        thinnedAt256();
        ways();
        waysBetweenThinned();
        again();
        searching();
        breaks();
        met();
        metOfTheOther();
        holds();
        passesOver99();
        eightBreaks();
        branches();
        branchesOfTheirOwn();
        branchesAtEdges();
        branchesOfSnapshots();
        fiveRuns();
        slices();
        slicesOfChanges();
        slicesOfBoth();
        TERMS.isTold();
        Check.finish();
    }

    private static List<Integer> snapshots(Rewinder x) {
        List<Integer> counts = new ArrayList<>();
        for (int i = 0; i < x.snapshots(); i++) {
            counts.add(x.snapshotAt(i));
        }
        return counts;
    }

    // ---- Snapshots ----

    private static void taken() {
        TERMS.says("Snapshots. A snapshot is taken at the moment 0, and at each count of a new step that can be"
            + " divided by 16, ahead of the events of this count.");
        Check.due("at 0", List.of(0), snapshots(Check.begun(Check.LOOP)));
        Check.due("at 1", List.of(0), snapshots(Check.loop(1)));
        Check.due("at 15", List.of(0), snapshots(Check.loop(15)));
        Check.due("at 16", List.of(0, 16), snapshots(Check.loop(16)));
        Check.due("at 17", List.of(0, 16), snapshots(Check.loop(17)));
        Check.due("at 31", List.of(0, 16), snapshots(Check.loop(31)));
        Check.due("at 32", List.of(0, 16, 32), snapshots(Check.loop(32)));
        Rewinder x = Check.loop(32);
        x.go(0);
        x.forward(32);
        Check.due("not at steps that are done again", List.of(0, 16, 32), snapshots(x));
        Rewinder without = new Rewinder();
        without.begin();
        without.forward(60);
        Check.due("without a step", List.of(0), snapshots(without));
        Rewinder over = Check.begun("k 0 1" + "; k 0 1".repeat(15));
        Check.due("over at 16", 16, over.forward(60));
        Check.due("over at 16", List.of(0, 16), snapshots(over));
        Check.index("no third", () -> over.snapshotAt(2));
        Check.index("none ahead of the first", () -> over.snapshotAt(-1));
        Rewinder leaps = Check.loop(15);
        leaps.goOn();
        Check.due("by goOn()", List.of(0, 16, 32, 48, 64), snapshots(leaps));
        leaps.next();
        leaps.forward(4);
        Check.due("by next()", List.of(0, 32, 48, 64, 80), snapshots(leaps));
    }

    private static void takenAheadOfEvents() {
        for (int count : new int[] {0, 16, 64}) {
            Rewinder x = Check.loop(count);
            x.feed(4);
            x.feed(5);
            x.change(60, 7);
            x.forward(3);
            x.go(count);
            Check.due("the events of " + count + " once", 2, x.console());
            Check.due("the events of " + count + " at all", 7, x.cell(60));
            x.select(0);
            Check.due("also behind them", 2, x.console());
            x.go(count);
            x.branch();
            x.feed(6);
            x.select(0);
            x.select(1);
            Check.due("also at the end of a branch", 3, x.console());
        }
        Rewinder pages = Check.begun("k 1 1; j 1 0");
        pages.forward(16);
        pages.change(0, 1);
        pages.forward(15);
        Check.due("a change at 16 is not in its snapshot", 8, pages.pages());
        pages.change(8, 1);
        pages.forward(1);
        Check.due("but in the next one, with one at 31", 10, pages.pages());
        pages.change(16, 1);
        Check.due("and one at 32 is not", 10, pages.pages());
    }

    private static void thinnedAt64() {
        TERMS.says("When one is taken at the count n, those at counts c are kept whose n - c is less than 64,"
            + " or less than 256 and c can be divided by 64, and the one at 0.");
        Check.due("48 from 16 is less than 64", List.of(0, 16, 32, 48, 64), snapshots(Check.loop(64)));
        Check.due("thinned when one is taken alone", List.of(0, 16, 32, 48, 64), snapshots(Check.loop(79)));
        Check.due("64 from 16 is not less", List.of(0, 32, 48, 64, 80), snapshots(Check.loop(80)));
        Check.due("64 from 32 is not less", List.of(0, 48, 64, 80, 96), snapshots(Check.loop(96)));
        Check.due("64 from 48 is not less", List.of(0, 64, 80, 96, 112), snapshots(Check.loop(112)));
        Check.due("64 can be divided by 64", List.of(0, 64, 80, 96, 112, 128), snapshots(Check.loop(128)));
        Check.due("80 cannot", List.of(0, 64, 96, 112, 128, 144), snapshots(Check.loop(144)));
        Check.due("96 cannot", List.of(0, 64, 112, 128, 144, 160), snapshots(Check.loop(160)));
    }

    private static void thinnedAt256() {
        Check.due("240 from 64 is less than 256", List.of(0, 64, 128, 192, 256, 272, 288, 304),
            snapshots(Check.loop(304)));
        Check.due("still", List.of(0, 64, 128, 192, 256, 272, 288, 304), snapshots(Check.loop(319)));
        Check.due("256 from 64 is not less, and the one at 0 stays", List.of(0, 128, 192, 256, 272, 288, 304, 320),
            snapshots(Check.loop(320)));
        Check.due("240 from 128 is less", List.of(0, 128, 192, 256, 320, 336, 352, 368), snapshots(Check.loop(368)));
        Check.due("256 from 128 is not less", List.of(0, 192, 256, 320, 336, 352, 368, 384),
            snapshots(Check.loop(384)));
        Check.due("at the last count", List.of(0, 192, 256, 320, 352, 368, 384, 400), snapshots(Check.loop(400)));
    }

    /** How many steps are done again from one moment to another one. */
    private static int way(Rewinder x, int from, int to) {
        x.go(from);
        int before = x.again();
        Check.due("from", from, x.go(to));
        return x.again() - before;
    }

    private static void ways() {
        TERMS.says("One goes to a moment n from the present state if n is not ahead of it and no snapshot lies behind"
            + " it up to n; otherwise from the last snapshot up to n.");
        Rewinder x = Check.loop(40);
        int[][] rows = {{20, 20, 0}, {20, 21, 1}, {20, 31, 11}, {20, 32, 0}, {20, 33, 1}, {20, 40, 8}, {20, 19, 3},
            {20, 17, 1}, {20, 16, 0}, {20, 15, 15}, {20, 1, 1}, {20, 0, 0}, {16, 16, 0}, {16, 17, 1}, {16, 31, 15},
            {16, 32, 0}, {17, 16, 0}, {15, 16, 0}, {15, 17, 1}, {15, 15, 0}, {15, 14, 14}, {14, 15, 1}, {0, 0, 0},
            {0, 15, 15}, {0, 16, 0}, {0, 31, 15}, {0, 40, 8}, {32, 40, 8}, {32, 31, 15}, {33, 40, 7}, {40, 40, 0},
            {40, 39, 7}};
        for (int[] row : rows) {
            Check.due("from " + row[0] + " to " + row[1], row[2], way(x, row[0], row[1]));
        }
    }

    private static void waysBetweenThinned() {
        Rewinder x = Check.loop(79);
        Check.due("16 is there", 15, way(x, 79, 31));
        Check.due("16 is there", 0, way(x, 10, 16));
        x.go(79);
        x.forward(1);
        Check.due("16 is gone", 31, way(x, 80, 31));
        Check.due("16 is gone", 6, way(x, 10, 16));
        Check.due("32 is there", 0, way(x, 10, 32));
        Rewinder far = Check.loop(319);
        Check.due("64 is there", 63, way(far, 319, 127));
        far.go(319);
        far.forward(1);
        Check.due("64 is gone", 127, way(far, 320, 127));
        Check.due("the last one up to there", 63, way(far, 320, 191));
        Check.due("from 0", 127, way(far, 0, 127));
        Check.due("a snapshot", 0, way(far, 0, 128));
    }

    private static void again() {
        TERMS.says("Steps that are so done again are counted.");
        Rewinder x = Check.loop(20);
        Check.due("none", 0, x.again());
        x.back(1);
        Check.due("back()", 3, x.again());
        x.forward(1);
        Check.due("forward()", 4, x.again());
        x.go(15);
        Check.due("go()", 19, x.again());
        x.addBreak(1, -1, 0, 0);
        x.goBack();
        Check.due("goBack(), to 13", 32, x.again());
        x.goOn();
        Check.due("goOn(), to 16, a snapshot", 32, x.again());
        x.goOn();
        Check.due("goOn(), to 19", 35, x.again());
        x.next();
        Check.due("next(), to 20", 36, x.again());
        x.backNext();
        Check.due("backNext(), to 19", 39, x.again());
        x.select(0);
        Check.due("select(), to 20", 43, x.again());
        Rewinder calls = Check.begun("c 0 2; o 0; k 1 1; j 1 2");
        calls.forward(9);
        calls.backFinish();
        Check.due("backFinish(), to 0", 0, calls.again());
        calls.forward(1);
        Check.due("forward()", 1, calls.again());
        calls.finish();
        Check.due("finish(), to 9", 9, calls.again());
        Check.due("with new ones", 61, calls.end());
    }

    private static void searching() {
        TERMS.says("Looking and searching count nothing.");
        Rewinder x = Check.loop(100);
        x.tick(1);
        x.addBreak(2, 0, 1, 0);
        x.addBreak(1, -1, 0, 0);
        x.branch();
        x.forward(5);
        Check.noElement("without()", () -> x.without(0));
        Check.noElement("with()", () -> x.with(0, 7));
        Check.noElement("difference()", () -> x.difference(0));
        Check.noElement("firstAbove()", () -> x.firstAbove(1, MOST));
        Check.due("firstAbove()", 3, x.firstAbove(1, 0));
        Check.due("met()", 0, x.met(0));
        Check.due("met()", 35, x.met(1));
        Check.due("slice()", 3, x.slice(1));
        Check.due("hangsOn()", true, x.hangsOn(1, 3));
        Check.due("isSound()", true, x.isSound());
        Check.due("lastWrite()", 2, x.lastWrite(1));
        Check.due("writerOf()", 2, x.writerOf(1));
        Check.due("callerOf()", -1, x.callerOf(1));
        Check.due("writes()", 1, x.writes(1));
        Check.due("pages()", 16, x.pages());
        Check.due("nothing", 0, x.again());
        Check.due("goBack(), past all up to 103", 'b', x.goBack());
        Check.due("goBack() counts the way alone", 7, x.again());
        Rewinder none = Check.loop(10);
        none.addBreak(39, -1, 0, 0);
        Check.due("goBack() to 0, past all", 's', none.goBack());
        Check.due("counts nothing", 0, none.again());
        Rewinder framed = Check.begun("c 0 1; k 0 1; j 0 1");
        framed.forward(1);
        framed.forward(1);
        Check.due("backNext()", 1, framed.backNext());
        Check.due("counts the way alone", 1, framed.again());
        Rewinder first = Check.begun("y; k 0 1", 0);
        first.forward(1);
        Check.noElement("backNext() without one", first::backNext);
        Check.due("counts nothing", 0, first.again());
    }

    // ---- Breaks ----

    private static void breaks() {
        TERMS.says("Breaks. A break has a place, and perhaps a register with a number that it must have,"
            + " and a number of times that it passes over.");
        Rewinder x = Check.loop(30);
        int[][] rows = {{0, -1, 0, 1}, {1, -1, LEAST, 10}, {2, 1, 5, 1}, {2, 1, 11, 0}, {1, 3, 0, 10}, {1, 3, 1, 0},
            {1, 2, 1, 10}, {39, -1, 0, 0}};
        for (int i = 0; i < rows.length; i++) {
            Check.due("its number", i, x.addBreak(rows[i][0], rows[i][1], rows[i][2], 0));
            Check.due("met with place " + rows[i][0] + ", register " + rows[i][1], rows[i][3], x.met(i));
        }
        Rewinder y = Check.begun("l 0 3; l 0 3; j 3 0");
        y.change(0, LEAST);
        y.addBreak(1, 0, LEAST, 0);
        y.addBreak(2, 0, LEAST + 1, 0);
        Check.due("the least number", 'b', y.goOn());
        Check.due("there", 1, y.now());
        Check.due("another number", 'e', y.goOn());
    }

    private static void met() {
        TERMS.says("A break is met at a moment if the present process is not over and at its place,"
            + " and its register has the number;");
        Rewinder over = Check.begun("k 0 1; r; o 0");
        over.addBreak(1, -1, 0, 0);
        over.addBreak(2, -1, 0, 0);
        over.forward(1);
        Check.due("at its place", 1, over.met(0));
        over.forward(1);
        Check.due("over there", 1, over.place(0));
        Check.due("so it is not met again", 1, over.met(0));
        over.go(1);
        Check.due("and does not hold", 'e', over.goOn());
        Rewinder behind = Check.begun("k 0 1");
        behind.addBreak(1, -1, 0, 0);
        Check.due("over at a place without an instruction", 'e', behind.goOn());
        Check.due("there", 1, behind.place(0));
        Check.due("not met", 0, behind.met(0));
        Rewinder empty = new Rewinder();
        empty.begin();
        empty.addBreak(0, -1, 0, 0);
        Check.due("without code", 0, empty.met(0));
        Rewinder moment = Check.loop(3);
        moment.addBreak(3, 1, 1, 0);
        moment.addBreak(3, 1, 2, 0);
        Check.due("its register has the number", 1, moment.met(0));
        Check.due("or has not", 0, moment.met(1));
    }

    private static void metOfTheOther() {
        Rewinder x = Check.begun("k 0 1; k 0 2; k 0 3", 0);
        x.addBreak(0, -1, 0, 0);
        x.addBreak(1, 0, 1, 0);
        Check.due("the moment 0", 1, x.met(0));
        x.forward(1);
        Check.due("the other one is at 0 still", 1, x.met(0));
        Check.due("the present one is at 1", 1, x.met(1));
        x.swap();
        Check.due("now the present one is at 0", 2, x.met(0));
        Check.due("a moment is behind all its events", 0, x.met(1));
        x.forward(1);
        Check.due("its own register", 1, x.met(1));
        Rewinder patched = Check.begun("k 0 1; k 0 2; j 0 0");
        patched.addBreak(1, 0, 1, 0);
        patched.forward(3);
        patched.patch(0, 'k', 0, 9, 0);
        patched.forward(1);
        Check.due("with the code of then", 1, patched.met(0));
    }

    private static void holds() {
        TERMS.says("it holds there if it was met at more moments than it passes over, from the moment 0 on,"
            + " this one included.");
        int[][] rows = {{0, 1}, {1, 2}, {2, 3}, {58, 59}, {59, 60}};
        for (int[] row : rows) {
            Rewinder x = Check.begun("k 0 1; j 0 1");
            x.addBreak(1, -1, 0, row[0]);
            Check.due("passed over " + row[0] + " times", 'b', x.goOn());
            Check.due("holds this one included", row[1], x.now());
            Check.due("met", row[1], x.met(0));
        }
        Rewinder zero = Check.begun("j 3 1; k 3 1; j 3 0");
        zero.addBreak(0, -1, 0, 1);
        Check.due("from the moment 0 on", 'b', zero.goOn());
        Check.due("the second time", 3, zero.now());
        Check.due("met at 0, too", 2, zero.met(0));
        zero.goBack();
        Check.due("at 0 it was passed over", 's', zero.goBack());
        Rewinder later = Check.loop(30);
        later.addBreak(1, -1, 0, 4);
        Check.due("moments ahead of the call count", 'b', later.goBack());
        Check.due("the 10th", 28, later.now());
        later.go(12);
        Check.due("the 5th is the first that holds", 'b', later.goOn());
        Check.due("there", 13, later.now());
        Check.due("none ahead of it", 's', later.goBack());
    }

    private static void passesOver99() {
        Rewinder x = Check.begun("k 0 1; j 0 1");
        x.addBreak(1, -1, 0, 99);
        x.forward(39);
        Check.due("the 99th time is passed over", 'l', x.goOn());
        Check.due("there", 99, x.now());
        Check.due("met", 99, x.met(0));
        Check.due("the 100th is not", 'b', x.goOn());
        Check.due("there", 100, x.now());
        Check.due("nor the 101st", 'b', x.goOn());
        Check.due("there", 101, x.now());
        Check.due("back to the 100th", 'b', x.goBack());
        Check.due("there", 100, x.now());
        Check.due("none ahead of it", 's', x.goBack());
        Check.argument("100 times", () -> x.addBreak(1, -1, 0, 100));
        Check.argument("-1 times", () -> x.addBreak(1, -1, 0, -1));
    }

    private static void eightBreaks() {
        TERMS.says("At most 8 breaks are added, with numbers from 0 on, since a run was begun.");
        Rewinder x = Check.loop(10);
        for (int i = 0; i < 7; i++) {
            Check.due("from 0 on", i, x.addBreak(1, -1, 0, 0));
        }
        for (int i = 0; i < 7; i++) {
            Check.due("left", 6 - i, x.removeBreak(i));
        }
        Check.due("the eighth, though none is left", 7, x.addBreak(2, -1, 0, 0));
        Check.unsupported("no ninth", () -> x.addBreak(2, -1, 0, 0));
        Check.due("all are taken away", 0, x.removeBreak(7));
        Check.unsupported("no ninth, though none is left", () -> x.addBreak(2, -1, 0, 0));
        x.branch();
        Check.unsupported("a branch is not begun", () -> x.addBreak(2, -1, 0, 0));
        x.select(0);
        Check.unsupported("nor is a run that is selected", () -> x.addBreak(2, -1, 0, 0));
        x.begin();
        Check.noElement("none at first", () -> x.met(0));
        Check.due("from 0 on again", 0, x.addBreak(2, -1, 0, 0));
        x.branch();
        Check.due("a branch has them, too", 0, x.met(0));
        Check.due("and those behind them", 1, x.addBreak(2, -1, 0, 0));
    }

    // ---- Branches ----

    private static void branches() {
        TERMS.says("Branches. A branch is a new run with all that the present one has up to the present moment:"
            + " its events up to this count, its sums, and its snapshots that are still kept;"
            + " it is the present run then, and the moment its end.");
        Rewinder x = Check.loop(32);
        x.tick(1);
        x.forward(1);
        x.tick(2);
        x.tick(3);
        x.forward(1);
        x.tick(4);
        x.go(33);
        Check.due("its number", 1, x.branch());
        Check.due("the moment is its end", 33, x.end());
        Check.due("the moment stays", 33, x.now());
        Check.due("its state stays", 3, x.clock());
        Check.due("events up to this count", 3, x.events());
        Check.due("those of the count, too", 33, x.countOf(2));
        Check.due("snapshots", List.of(0, 16, 32), snapshots(x));
        Check.due("it was the present run", 1, x.select(0));
        Check.due("the other one keeps its end", 34, x.end());
        Check.due("and its events", 4, x.events());
        x.go(32);
        x.branch();
        Check.due("one count ahead", 1, x.events());
        x.go(31);
        x.branch();
        Check.due("two counts ahead", 0, x.events());
        Check.due("its snapshots up to there", List.of(0, 16), snapshots(x));
    }

    private static void branchesOfTheirOwn() {
        Rewinder x = Check.begun("c 0 2; r; i 0; o 0; j 0 2");
        x.branch();
        x.feed(5);
        x.feed(6);
        x.patch(0, 'k', 2, 1, 0);
        x.patch(1, 'c', 0, 2, 0);
        x.forward(17);
        Check.due("where its frame returns", 2, x.returnsTo(0, 0));
        long ofBranch = x.sum();
        x.select(0);
        x.feed(7);
        x.feed(8);
        x.forward(17);
        Check.due("where its frame returns", 1, x.returnsTo(0, 0));
        long ofFirst = x.sum();
        x.select(1);
        Check.due("all that a branch has is its own", ofBranch, x.sum());
        x.select(0);
        Check.due("all that the first one has, too", ofFirst, x.sum());
    }

    private static void branchesAtEdges() {
        Rewinder x = Check.begun(Check.LOOP);
        x.tick(1);
        x.branch();
        Check.due("at 0: the events of 0", 1, x.events());
        Check.due("at 0: its end", 0, x.end());
        Check.due("at 0: the snapshot", List.of(0), snapshots(x));
        Check.stepForward(x, 32);
        Check.due("the sum of 32", 32, x.without(0));
        x.branch();
        Check.due("at 32: its sum", 32, x.without(0));
        x.go(31);
        x.branch();
        Check.noElement("at 31: no sum but that of 0", () -> x.without(0));
        x.tick(1);
        x.forward(1);
        Check.noElement("its own sum of 32, behind another event", () -> x.without(0));
        x.select(2);
        Check.due("the sum of the other one stays", 32, x.without(0));
    }

    private static void branchesOfSnapshots() {
        Rewinder x = Check.loop(100);
        x.go(95);
        x.branch();
        Check.due("those that are still kept", List.of(0, 48, 64, 80), snapshots(x));
        x.forward(1);
        Check.due("its own one", List.of(0, 48, 64, 80, 96), snapshots(x));
        x.select(0);
        x.go(96);
        x.branch();
        Check.due("up to this count, this one included", List.of(0, 48, 64, 80, 96), snapshots(x));
        x.go(20);
        x.branch();
        Check.due("16 is gone already", List.of(0), snapshots(x));
        x.forward(12);
        Check.due("it does not come again", List.of(0, 32), snapshots(x));
    }

    private static void fiveRuns() {
        TERMS.says("At most 5 runs have numbers from 0 on.");
        Rewinder x = Check.loop(3);
        for (int run = 1; run < 5; run++) {
            int one = run;
            Check.index("not there yet", () -> x.select(one));
            Check.index("not there yet", () -> x.difference(one));
            Check.due("from 0 on", run, x.branch());
        }
        Check.unsupported("no sixth", x::branch);
        Check.due("the fifth is there", 4, x.select(0));
        Check.unsupported("no sixth from another one", x::branch);
        Check.index("no run 5", () -> x.select(5));
        Check.index("no run -1", () -> x.select(-1));
        Check.due("the first one", 0, x.select(4));
        x.begin();
        Check.index("all others are gone", () -> x.select(1));
        Check.due("from 0 on again", 1, x.branch());
    }

    // ---- Slices ----

    private static void hangs(String what, Rewinder x, int cell, Integer... steps) {
        List<Integer> found = new ArrayList<>();
        for (int step = 0; step <= x.end() + 1; step++) {
            if (x.hangsOn(cell, step)) {
                found.add(step);
            }
        }
        Check.due(what, List.of(steps), found);
        Check.due(what + ": how many", steps.length, x.slice(cell));
    }

    private static void slices() {
        TERMS.says("Slices. What a register or cell has hangs on steps: what an instruction sets hangs on its step,"
            + " and on all that the registers and the cell hang on that it reads, the ones that tell a cell's number"
            + " included; what is put by 'm' hangs on nothing, and nothing does at first.");
        Rewinder none = Check.begun("s 0 1; r");
        hangs("nothing at first", none, 0);
        none.forward(1);
        hangs("registers hang on nothing at first", none, 0, 1);
        Rewinder told = Check.begun("k 0 5; k 1 6; s 0 1; k 2 7; l 3 0; s 2 3; i 0; s 2 0; t 1; s 2 1");
        told.forward(3);
        hangs("'s': the register that tells the cell, and the other one", told, 5, 1, 2, 3);
        told.forward(3);
        hangs("'l': the register that tells the cell, and the cell", told, 7, 1, 2, 3, 4, 5, 6);
        told.forward(2);
        hangs("'i' hangs on its step", told, 7, 4, 7, 8);
        told.forward(2);
        hangs("'t' hangs on its step", told, 7, 4, 9, 10);
        Rewinder two = Check.begun(
            "k 0 1; k 1 2; k 2 3; + 3 0 1; s 3 3; - 3 1 2; s 0 3; * 3 2 0; s 1 3; < 3 3 0; s 2 3");
        two.forward(5);
        hangs("'+': both", two, 3, 1, 2, 4, 5);
        two.forward(2);
        hangs("'-': both", two, 1, 1, 2, 3, 6, 7);
        two.forward(2);
        hangs("'*': both", two, 2, 1, 2, 3, 8, 9);
        two.forward(2);
        hangs("'<': both, and what they hang on", two, 3, 1, 3, 8, 10, 11);
        Rewinder others = Check.begun("k 0 1; o 0; j 0 3; c 0 4; k 1 9; s 0 1; r");
        others.forward(6);
        hangs("'o', 'j' and 'c' set nothing", others, 1, 1, 5, 6);
        Rewinder zero = Check.begun("s 0 1; k 1 5; k 2 0; l 3 2; s 1 3");
        zero.forward(5);
        hangs("'l' of the cell 0, told by a register behind the first", zero, 5, 1, 2, 3, 4, 5);
        Rewinder limit = Check.begun("k 0 0; j 1 0; s 0 0; k 1 1; j 1 1");
        Check.stepForward(limit, 399);
        limit.patch(limit.place(0), 's', 0, 1, 0);
        limit.forward(1);
        Check.due("the last step", true, limit.hangsOn(0, 400));
        Check.due("none behind it", false, limit.hangsOn(0, 401));
        Check.due("no step 0", false, limit.hangsOn(0, 0));
    }

    private static void slicesOfBoth() {
        Rewinder x = Check.begun("k 0 60; s 0 0; k 1 61; s 1 1; k 2 62; s 2 2; k 3 63; s 3 3; y; r;"
            + " k 0 0; k 1 1; k 2 2; k 3 3; s 0 0; s 1 1; s 2 2; s 3 3; y", 10);
        x.forward(17);
        for (int i = 0; i < 4; i++) {
            hangs("a cell that the process 0 set", x, 60 + i, 2 * i + 1, 2 * i + 2);
            hangs("a cell that the process 1 set", x, i, 10 + i, 14 + i);
        }
        Rewinder same = Check.begun("k 0 1; y; s 1 0; k 0 2; y", 3);
        same.forward(4);
        Check.due("back in the process 0", 0, same.present());
        same.forward(1);
        hangs("each process has its own registers", same, 0, 1, 5);
    }

    private static void slicesOfChanges() {
        Rewinder x = Check.begun("k 0 1; s 0 0; l 2 0; s 2 2; s 0 2");
        x.forward(2);
        hangs("set", x, 1, 1, 2);
        x.change(1, 1);
        hangs("put by 'm', the same number", x, 1);
        x.forward(2);
        hangs("what is read behind it", x, 1, 1, 3, 4);
        x.go(1);
        hangs("ahead of all", x, 1);
        x.branch();
        x.change(1, 7);
        x.forward(1);
        hangs("put by 'm', then set", x, 1, 1, 2);
        x.select(0);
        hangs("the other one as it was", x, 1, 1, 3, 4);
    }
}
