/** The edges that the promises 15 to 35 name in their own sentences: events, breaks, and the present state. */
public final class StateEdgeTest {
    private static final int MOST = Integer.MAX_VALUE;
    private static final int LEAST = Integer.MIN_VALUE;

    public static void main(String[] args) {
        feed();
        tick();
        swap();
        change();
        patch();
        patchOfOneRun();
        addBreak();
        removeBreak();
        met();
        now();
        end();
        present();
        isOver();
        place();
        register();
        frames();
        returnsTo();
        cell();
        outputs();
        outputAt();
        clock();
        console();
        Document.areTold(15, 35);
        Check.finish();
    }

    private static void feed() {
        Document.about(15, "Feeds a number to the console.", "Returns the number of numbers in it.");
        Rewinder x = Check.begun("i 0; i 1; j 2 0");
        Check.due("one", 1, x.feed(LEAST));
        Check.due("two", 2, x.feed(LEAST));
        x.forward(1);
        Check.due("one is gone, one is new", 2, x.feed(9));
        x.back(1);
        Check.unsupported("one ahead of the end", () -> x.feed(1));
        Check.due("it is not fed", 2, x.console());
        x.forward(1);
        Check.due("at the end again", 3, x.feed(1));
        x.forward(2);
        Check.due("both are over", true, x.isOver(0));
        Check.due("that is the end, too", 3, x.feed(1));
        Rewinder many = Check.begun("k 0 1; i 1; j 0 1");
        for (int i = 1; i <= 300; i++) {
            Check.due("many", i, many.feed(i));
        }
        Check.stepForward(many, 121);
        Check.due("sixty are gone", 240, many.console());
        Check.due("the sixtieth", 60, many.register(0, 1));
    }

    private static void tick() {
        Document.about(16, "Sets the clock.", "Returns the one before.");
        Rewinder x = Check.begun("t 0; j 1 0; t 2");
        Check.due("0 before", 0, x.tick(LEAST));
        Check.due("the least before", LEAST, x.tick(MOST));
        Check.due("the greatest before", MOST, x.tick(MOST));
        x.forward(1);
        Check.due("it is read", MOST, x.register(0, 0));
        x.go(0);
        Check.unsupported("one ahead of the end", () -> x.tick(1));
        Check.due("it is not set", MOST, x.clock());
        x.go(1);
        Check.due("at the end again", MOST, x.tick(-1));
    }

    private static void swap() {
        Document.about(17, "Switches: the other process is the present one, if it is not over.",
            "Returns the present process then.");
        Rewinder x = Check.begun("k 0 1; r", 0);
        Check.due("the other one", 1, x.swap());
        Check.due("and back", 0, x.swap());
        x.forward(1);
        x.go(0);
        Check.unsupported("one ahead of the end", x::swap);
        x.go(1);
        Check.due("at the end again", 1, x.swap());
        x.swap();
        x.forward(1);
        Check.due("0 is over", 1, x.present());
        Check.due("so it stays", 1, x.swap());
        x.forward(9);
        Check.due("both are over", 1, x.swap());
        Check.due("all are kept", 6, x.events());
        Check.due("without a beginning", 0, Check.begun("k 0 1").swap());
    }

    private static void change() {
        Document.about(18, "Changes a cell.", "Returns the one before.");
        Rewinder x = Check.begun("k 0 63; s 0 0; l 1 0; l 2 3");
        Check.due("0 before", 0, x.change(63, LEAST));
        Check.due("the least before", LEAST, x.change(63, MOST));
        Check.due("the greatest before", MOST, x.change(63, 1));
        Check.due("another one", 0, x.change(0, 5));
        x.forward(2);
        Check.due("it was written over", 63, x.change(63, -2));
        x.forward(2);
        Check.due("it is read", -2, x.register(0, 1));
        Check.due("the first one is read", 5, x.register(0, 2));
        x.go(3);
        Check.unsupported("one ahead of the end", () -> x.change(0, 1));
        Check.due("it is not changed", 5, x.cell(0));
        x.go(1);
        Check.due("ahead of the last change", 1, x.cell(63));
        x.go(2);
        Check.due("behind it", -2, x.cell(63));
    }

    private static void patch() {
        Document.about(19, "Replaces an instruction of the present run from now on.", "Returns the letter before.");
        Rewinder x = Check.begun("k 0 1; k 0 2; k 3 1; j 3 0");
        Check.due("the first one", 'k', x.patch(0, 'o', 3, 0, 0));
        Check.due("the letter before", 'o', x.patch(0, 'k', 1, 7, 0));
        Check.due("the last one", 'j', x.patch(3, 'j', 3, 1, 0));
        Check.index("none behind it", () -> x.patch(4, 'k', 0, 0, 0));
        x.forward(1);
        Check.due("from now on", 7, x.register(0, 1));
        Check.due("not as it was", 0, x.register(0, 0));
        x.forward(3);
        Check.due("the jump, too", 1, x.place(0));
        Check.due("one that was done already", 'k', x.patch(1, 'k', 0, 9, 0));
        x.forward(1);
        Check.due("from now on", 9, x.register(0, 0));
        x.go(2);
        Check.due("not ahead of it", 2, x.register(0, 0));
        x.go(4);
        Check.unsupported("one ahead of the end", () -> x.patch(1, 'r', 0, 0, 0));
        x.go(5);
        Check.due("done again as it was", 9, x.register(0, 0));
        Check.due("at the end again", 'k', x.patch(1, 'r', 0, 0, 0));
    }

    private static void patchOfOneRun() {
        Rewinder x = Check.begun("k 0 1; j 0 0");
        x.forward(1);
        x.branch();
        x.patch(0, 'k', 0, 5, 0);
        x.forward(2);
        Check.due("in the present run", 5, x.register(0, 0));
        x.select(0);
        Check.due("not in the other one", 'k', x.patch(0, 'o', 0, 0, 0));
        x.forward(2);
        Check.due("which has its own", 1, x.outputs());
        Check.due("and its number", 1, x.register(0, 0));
        x.select(1);
        Check.due("and the first one keeps its own", 'k', x.patch(0, 'k', 0, 6, 0));
        Check.due("nothing was put out", 0, x.outputs());
        x.begin();
        x.forward(1);
        Check.due("not in a run that is begun", 1, x.register(0, 0));
    }

    private static void addBreak() {
        Document.about(20, "Adds a break.", "Returns the number of the break.");
        Rewinder x = Check.begun("k 0 1; j 0 1");
        for (int i = 0; i < 8; i++) {
            Check.due("its number", i, x.addBreak(i == 7 ? 1 : 39, -1, 0, 0));
        }
        Check.unsupported("8 were added", () -> x.addBreak(1, -1, 0, 0));
        Check.due("the last one holds", 'b', x.goOn());
        Check.due("there", 1, x.now());
        Rewinder ahead = Check.loop(20);
        ahead.go(5);
        Check.due("also ahead of the end", 0, ahead.addBreak(1, -1, 0, 0));
        Check.due("the moment stays", 5, ahead.now());
    }

    private static void removeBreak() {
        Document.about(21, "Takes a break away; its number is not given again.",
            "Returns the number of breaks that are left.");
        Rewinder x = Check.begun("k 0 1; j 0 1");
        x.addBreak(1, -1, 0, 0);
        Check.due("none is left", 0, x.removeBreak(0));
        Check.noElement("it is gone", () -> x.removeBreak(0));
        Check.due("it holds no more", 'l', x.goOn());
        Check.due("the next number", 1, x.addBreak(1, -1, 0, 0));
        Check.due("one more", 2, x.addBreak(1, 0, 2, 0));
        Check.due("the first one is gone still", 1, x.removeBreak(1));
        Check.noElement("0 is not given again", () -> x.removeBreak(0));
        Check.noElement("1 is not given again", () -> x.met(1));
        for (int i = 3; i < 8; i++) {
            Check.due("the next number", i, x.addBreak(1, -1, 0, 0));
        }
        Check.due("the last one", 5, x.removeBreak(7));
        Check.unsupported("its number is not given again", () -> x.addBreak(1, -1, 0, 0));
        Rewinder ends = Check.begun("k 0 1");
        for (int i = 0; i < 8; i++) {
            ends.addBreak(0, -1, 0, 0);
        }
        for (int i = 7; i >= 0; i--) {
            Check.due("the ones ahead of it are left", i, ends.removeBreak(i));
        }
    }

    private static void met() {
        Document.about(22, "Returns how often a break was met up to the present moment.",
            "Returns the number of moments.");
        Rewinder x = Check.begun("k 0 1; j 0 1");
        x.addBreak(0, -1, 0, 0);
        x.addBreak(1, -1, 0, 99);
        Check.due("at the moment 0", 1, x.met(0));
        Check.due("not yet", 0, x.met(1));
        x.forward(1);
        Check.due("this one included", 1, x.met(1));
        Check.stepForward(x, 399);
        Check.due("at each one up to the last", 400, x.met(1));
        Check.due("0 alone", 1, x.met(0));
        x.go(399);
        Check.due("up to the present moment", 399, x.met(1));
        x.go(0);
        Check.due("up to 0", 0, x.met(1));
        x.go(10);
        x.branch();
        Check.due("in a branch", 10, x.met(1));
        x.patch(1, 'k', 0, 3, 0);
        x.forward(1);
        Check.due("over, at no place", 10, x.met(1));
        x.select(0);
        Check.due("in the other one", 400, x.met(1));
    }

    private static void now() {
        Document.about(23, "Returns the present moment.", "Returns the moment.");
        Rewinder x = Check.begun(Check.LOOP);
        Check.due("0", 0, x.now());
        Check.stepForward(x, 400);
        Check.due("400", 400, x.now());
        x.back(1);
        Check.due("399", 399, x.now());
    }

    private static void end() {
        Document.about(24, "Returns the end of the present run.", "Returns the moment.");
        Rewinder x = Check.begun(Check.LOOP);
        Check.due("0", 0, x.end());
        Check.stepForward(x, 400);
        x.go(0);
        Check.due("400", 400, x.end());
        x.branch();
        Check.due("of the present run", 0, x.end());
        x.select(0);
        Check.due("of the present run", 400, x.end());
    }

    private static void present() {
        Document.about(25, "Returns the present process.", "Returns the process, 0 or 1.");
        Rewinder x = Check.begun("y; y; k 0 1", 0);
        int[] due = {0, 1, 0, 1, 0, 1, 1};
        for (int moment = 0; moment < due.length; moment++) {
            Check.due("at " + moment, due[moment], x.present());
            x.forward(1);
        }
        x.go(4);
        Check.due("at 4 again", 0, x.present());
    }

    private static void isOver() {
        Document.about(26, "Returns whether a process is over.", "Returns whether it is.");
        Rewinder x = Check.begun("k 0 1; r; k 0 2", 2);
        boolean[][] due = {{false, false}, {false, false}, {true, false}, {true, true}};
        for (int moment = 0; moment < due.length; moment++) {
            Check.due("0 at " + moment, due[moment][0], x.isOver(0));
            Check.due("1 at " + moment, due[moment][1], x.isOver(1));
            x.forward(1);
        }
        x.go(2);
        Check.due("0 at 2 again", true, x.isOver(0));
        Check.due("1 at 2 again", false, x.isOver(1));
    }

    private static void place() {
        Document.about(27, "Returns the place of a process.", "Returns the place; where it was last if it is over.");
        Rewinder x = Check.begun("k 0 1; j 0 3; k 0 5; r; k 0 2", 4);
        int[][] due = {{0, 4}, {1, 4}, {3, 4}, {3, 4}, {3, 5}};
        for (int moment = 0; moment < due.length; moment++) {
            Check.due("0 at " + moment, due[moment][0], x.place(0));
            Check.due("1 at " + moment, due[moment][1], x.place(1));
            x.forward(1);
        }
        Check.due("0 is over by its 'r'", true, x.isOver(0));
        Check.due("1 is over behind the last one", true, x.isOver(1));
        Rewinder full = Check.begun("c 0 1; c 0 0");
        full.forward(9);
        Check.due("over by its 'c'", 0, full.place(0));
        Rewinder far = Check.begun("k 0 1; j 0 40");
        far.forward(2);
        Check.due("the last place that there is", 40, far.place(0));
        Check.due("1 without a beginning", 0, far.place(1));
    }

    private static void register() {
        Document.about(28, "Returns a register.", "Returns the number.");
        Rewinder x = Check.begun("k 0 1; k 3 -1; y; k 0 2; k 3 -2; y", 3);
        x.forward(6);
        Check.due("the first of 0", 1, x.register(0, 0));
        Check.due("the last of 0", -1, x.register(0, 3));
        Check.due("the first of 1", 2, x.register(1, 0));
        Check.due("the last of 1", -2, x.register(1, 3));
        Check.due("between", 0, x.register(0, 1) + x.register(0, 2) + x.register(1, 1) + x.register(1, 2));
        x.go(0);
        Check.due("at 0", 0, x.register(0, 0));
        x.go(1);
        Check.due("at 1", 1, x.register(0, 0));
    }

    private static void frames() {
        Document.about(29, "Returns the number of frames of a process.", "Returns the number of frames.");
        Rewinder x = Check.begun("c 0 0");
        int[] due = {0, 1, 2, 3, 4, 5, 6, 6, 6};
        for (int frames : due) {
            Check.due("frames", frames, x.frames(0));
            x.forward(1);
        }
        Check.due("of the other one", 0, x.frames(1));
        x.go(3);
        Check.due("at 3", 3, x.frames(0));
        Rewinder back = Check.begun("c 0 2; r; r");
        back.forward(2);
        Check.due("gone again", 0, back.frames(0));
        back.forward(1);
        Check.due("none less than none", 0, back.frames(0));
    }

    private static void returnsTo() {
        Document.about(30, "Returns where a frame returns.", "Returns the place.");
        Rewinder last = Check.begun("k 0 1; j 0 39" + "; r".repeat(37) + "; c 0 2");
        Check.noElement("none yet", () -> last.returnsTo(0, 0));
        last.forward(3);
        Check.due("the place behind the last one", 40, last.returnsTo(0, 0));
        last.forward(1);
        Check.due("it goes there", 40, last.place(0));
        Check.due("over", true, last.isOver(0));
        Check.noElement("it is gone", () -> last.returnsTo(0, 0));
        Rewinder x = Check.begun("c 0 1; c 0 2; c 0 0");
        x.forward(7);
        int[] due = {3, 2, 1, 3, 2, 1};
        for (int frame = 0; frame < 6; frame++) {
            Check.due("the last one first", due[frame], x.returnsTo(0, frame));
        }
        Check.noElement("no seventh", () -> x.returnsTo(0, 6));
        Check.noElement("none ahead of the last one", () -> x.returnsTo(0, -1));
        Check.index("no such process, first", () -> x.returnsTo(2, 6));
    }

    private static void cell() {
        Document.about(31, "Returns a cell.", "Returns the number.");
        Rewinder x = Check.begun("s 0 1; k 0 63; k 1 7; s 0 1; k 0 0; s 0 1; j 1 6");
        x.forward(4);
        Check.due("the last one", 7, x.cell(63));
        Check.due("the first one", 0, x.cell(0));
        Check.due("one between", 0, x.cell(62));
        x.forward(2);
        Check.due("the first one", 7, x.cell(0));
        x.go(3);
        Check.due("the last one, ahead of it", 0, x.cell(63));
    }

    private static void outputs() {
        Document.about(32, "Returns how many numbers were put out.", "Returns the number of numbers.");
        Rewinder x = Check.begun("o 0");
        Check.due("none", 0, x.outputs());
        x.forward(1);
        Check.due("one", 1, x.outputs());
        x.go(0);
        Check.due("none again", 0, x.outputs());
        Rewinder all = Check.begun("o 0; j 1 0; k 1 1; j 1 0");
        all.forward(2);
        all.patch(2, 'o', 1, 0, 0);
        all.patch(3, 'o', 1, 0, 0);
        all.forward(2);
        Check.due("three of four steps", 3, all.outputs());
        Check.due("then over", true, all.isOver(0));
    }

    private static void outputAt() {
        Document.about(33, "Returns a number that was put out.", "Returns the number.");
        Rewinder x = Check.begun("o 0; k 0 -1; o 0");
        Check.index("none", () -> x.outputAt(0));
        x.forward(1);
        Check.due("the first one", 0, x.outputAt(0));
        Check.index("no second", () -> x.outputAt(1));
        x.forward(2);
        Check.due("the last one", -1, x.outputAt(1));
        Check.index("no third", () -> x.outputAt(2));
        x.go(2);
        Check.index("no second again", () -> x.outputAt(1));
    }

    private static void clock() {
        Document.about(34, "Returns the clock.", "Returns the number.");
        Rewinder x = Check.loop(16);
        Check.due("0 at first", 0, x.clock());
        x.tick(LEAST);
        Check.due("set", LEAST, x.clock());
        x.forward(1);
        Check.due("it stays", LEAST, x.clock());
        x.go(15);
        Check.due("one ahead", 0, x.clock());
        x.go(16);
        Check.due("there, from a snapshot", LEAST, x.clock());
    }

    private static void console() {
        Document.about(35, "Returns how many numbers the console has.", "Returns the number of numbers.");
        Rewinder x = Check.begun("i 0; i 0");
        Check.due("none", 0, x.console());
        x.feed(1);
        Check.due("one", 1, x.console());
        x.forward(1);
        Check.due("none again", 0, x.console());
        x.forward(1);
        Check.due("not less than none", 0, x.console());
        x.go(0);
        Check.due("one again", 1, x.console());
    }
}
