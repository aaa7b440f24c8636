/** Promises 23 to 35: what the present moment has. */
public final class StateTest {
    public static void main(String[] args) {
        noRun();
        moments();
        processes();
        frames();
        cells();
        outputs();
        clockAndConsole();
        Check.finish();
    }

    private static void noRun() {
        Rewinder x = Check.machine("k 0 1");
        Check.state("P23", x::now);
        Check.state("P24", x::end);
        Check.state("P25", x::present);
        Check.state("P26", () -> x.isOver(2));
        Check.state("P27", () -> x.place(2));
        Check.state("P28", () -> x.register(2, 4));
        Check.state("P29", () -> x.frames(2));
        Check.state("P30", () -> x.returnsTo(2, 9));
        Check.state("P31", () -> x.cell(64));
        Check.state("P32", x::outputs);
        Check.state("P33", () -> x.outputAt(0));
        Check.state("P34", x::clock);
        Check.state("P35", x::console);
    }

    private static void moments() {
        Rewinder x = Check.loop(50);
        Check.due("P23 now", 50, x.now());
        Check.due("P24 end", 50, x.end());
        x.go(17);
        Check.due("P23 now", 17, x.now());
        Check.due("P24 end", 50, x.end());
        x.branch();
        Check.due("P24 end of the branch", 17, x.end());
        x.select(0);
        Check.due("P23 at the end", 50, x.now());
        Check.due("P24 end", 50, x.end());
    }

    private static void processes() {
        Rewinder x = Check.begun("k 3 5; y; k 0 7; r; k 3 -5; y; r", 4);
        Check.due("P25 at first", 0, x.present());
        Check.due("P27 at first", 0, x.place(0));
        Check.due("P27 at first", 4, x.place(1));
        Check.due("P26 at first", false, x.isOver(0));
        Check.due("P26 at first", false, x.isOver(1));
        for (int process = 0; process < 2; process++) {
            for (int register = 0; register < 4; register++) {
                Check.due("P28 at first", 0, x.register(process, register));
            }
        }
        x.forward(3);
        Check.due("P25 after y", 1, x.present());
        Check.due("P28 of 0", 5, x.register(0, 3));
        Check.due("P28 of 1", -5, x.register(1, 3));
        Check.due("P27 of 0", 2, x.place(0));
        Check.due("P27 of 1", 5, x.place(1));
        x.forward(3);
        Check.due("P26 0 is over", true, x.isOver(0));
        Check.due("P26 1 is not", false, x.isOver(1));
        Check.due("P25 1 is the present one", 1, x.present());
        Check.due("P27 where it was last", 3, x.place(0));
        x.forward(3);
        Check.due("P26 1 is over", true, x.isOver(1));
        Check.due("P27 where it was last", 6, x.place(1));
        for (int wrong : new int[] {-1, 2, Integer.MAX_VALUE, Integer.MIN_VALUE}) {
            Check.index("P26 no such process", () -> x.isOver(wrong));
            Check.index("P27 no such process", () -> x.place(wrong));
            Check.index("P28 no such process", () -> x.register(wrong, 0));
            Check.index("P29 no such process", () -> x.frames(wrong));
            Check.index("P30 no such process", () -> x.returnsTo(wrong, 0));
        }
        for (int wrong : new int[] {-1, 4, Integer.MAX_VALUE, Integer.MIN_VALUE}) {
            Check.index("P28 no such register", () -> x.register(0, wrong));
            Check.index("P28 no such register", () -> x.register(1, wrong));
        }
        Rewinder one = Check.begun("k 0 1");
        Check.due("P26 over at first", true, one.isOver(1));
        Check.due("P27 without a beginning", 0, one.place(1));
        Rewinder empty = new Rewinder();
        empty.begin();
        Check.due("P26 without code", true, empty.isOver(0));
        Check.due("P25 without code", 0, empty.present());
    }

    private static void frames() {
        Rewinder x = Check.begun("c 0 2; r; c 0 4; r; c 0 0");
        Check.due("P29 at first", 0, x.frames(0));
        Check.noElement("P30 without a frame", () -> x.returnsTo(0, 0));
        x.forward(3);
        Check.due("P29 three", 3, x.frames(0));
        Check.due("P30 the last one", 5, x.returnsTo(0, 0));
        Check.due("P30 the one ahead", 3, x.returnsTo(0, 1));
        Check.due("P30 the first one", 1, x.returnsTo(0, 2));
        Check.noElement("P30 no such frame", () -> x.returnsTo(0, 3));
        Check.noElement("P30 -1", () -> x.returnsTo(0, -1));
        Check.noElement("P30 far", () -> x.returnsTo(0, Integer.MAX_VALUE));
        Check.index("P30 the process comes first", () -> x.returnsTo(2, 9));
        Check.due("P29 of the other one", 0, x.frames(1));
        x.forward(4);
        Check.due("P29 six at most", 6, x.frames(0));
        Check.due("P26 over then", true, x.isOver(0));
        Check.due("P24 at the 7th", 7, x.end());
        x.go(2);
        Check.due("P29 again", 2, x.frames(0));
        Check.due("P30 again", 3, x.returnsTo(0, 0));
        Rewinder y = Check.begun("c 0 2; k 0 1; r");
        y.forward(2);
        Check.due("P29 gone", 0, y.frames(0));
        Check.due("P27 behind the call", 1, y.place(0));
        Rewinder last = Check.begun("c 0 0; r");
        last.patch(0, 'c', 0, 1, 0);
        last.forward(2);
        Check.due("P27 returns", 1, last.place(0));
        last.forward(1);
        Check.due("P26 returned to without a frame", true, last.isOver(0));
    }

    private static void cells() {
        Rewinder x = Check.loop(399);
        Check.due("P31 the second round", 128, x.cell(0));
        Check.due("P31 the first round", 127, x.cell(63));
        Check.due("P31 the second round", 133, x.cell(5));
        Check.due("P31 the second round", 70, x.cell(6));
        for (int wrong : new int[] {-1, 64, Integer.MAX_VALUE, Integer.MIN_VALUE}) {
            Check.index("P31 no such cell", () -> x.cell(wrong));
        }
        x.go(0);
        for (int cell = 0; cell < 64; cell++) {
            Check.due("P31 at first", 0, x.cell(cell));
        }
        Rewinder y = Check.begun("k 0 -1; s 0 0; k 0 -64; k 1 8; s 0 1; k 0 -65; l 2 0");
        y.forward(9);
        Check.due("P31 -1 is 63", -1, y.cell(63));
        Check.due("P31 -64 is 0", 8, y.cell(0));
        Check.due("P31 -65 is 63", -1, y.register(0, 2));
    }

    private static void outputs() {
        Rewinder x = Check.begun("k 1 1; + 0 0 1; o 0; j 1 1");
        Check.due("P32 at first", 0, x.outputs());
        Check.index("P33 none", () -> x.outputAt(0));
        Check.stepForward(x, 400);
        Check.due("P32 many", 133, x.outputs());
        Check.due("P33 first", 1, x.outputAt(0));
        Check.due("P33 last", 133, x.outputAt(132));
        Check.index("P33 133", () -> x.outputAt(133));
        Check.index("P33 -1", () -> x.outputAt(-1));
        Check.index("P33 far", () -> x.outputAt(Integer.MAX_VALUE));
        x.go(5);
        Check.due("P32 again", 1, x.outputs());
        Check.index("P33 not yet", () -> x.outputAt(1));
        Rewinder y = Check.begun("k 0 1; o 0; j 0 1");
        Check.stepForward(y, 400);
        y.patch(2, 'o', 0, 0, 0);
        Check.due("P32 both", 200, y.outputs());
    }

    private static void clockAndConsole() {
        Rewinder x = Check.begun("i 0; i 1; i 2");
        Check.due("P34 at first", 0, x.clock());
        Check.due("P35 at first", 0, x.console());
        x.tick(Integer.MIN_VALUE);
        x.feed(1);
        x.feed(2);
        Check.due("P34 set", Integer.MIN_VALUE, x.clock());
        Check.due("P35 fed", 2, x.console());
        x.forward(1);
        Check.due("P35 one is gone", 1, x.console());
        x.tick(9);
        x.forward(2);
        Check.due("P35 all are gone", 0, x.console());
        x.go(0);
        Check.due("P35 again", 2, x.console());
        Check.due("P34 again", Integer.MIN_VALUE, x.clock());
        x.go(1);
        Check.due("P34 behind the event", 9, x.clock());
    }
}
