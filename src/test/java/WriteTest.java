/** Promises 36 to 40: lastWrite, writerOf, callerOf, writes, firstAbove. */
public final class WriteTest {
    public static void main(String[] args) {
        refused();
        writes();
        callers();
        atTheLimit();
        firstAbove();
        Check.finish();
    }

    private static void refused() {
        Rewinder none = new Rewinder();
        Check.state("P36", () -> none.lastWrite(64));
        Check.state("P37", () -> none.writerOf(64));
        Check.state("P38", () -> none.callerOf(64));
        Check.state("P39", () -> none.writes(64));
        Check.state("P40", () -> none.firstAbove(64, 0));
        Rewinder x = Check.begun("k 0 1; s 0 0");
        for (int wrong : new int[] {-1, 64, Integer.MAX_VALUE, Integer.MIN_VALUE}) {
            Check.index("P36 no such cell", () -> x.lastWrite(wrong));
            Check.index("P37 no such cell", () -> x.writerOf(wrong));
            Check.index("P38 no such cell", () -> x.callerOf(wrong));
            Check.index("P39 no such cell", () -> x.writes(wrong));
            Check.index("P40 no such cell", () -> x.firstAbove(wrong, Integer.MAX_VALUE));
        }
        x.change(1, 5);
        x.forward(1);
        Check.noElement("P36 a change is no step", () -> x.lastWrite(1));
        Check.noElement("P37 a change is no step", () -> x.writerOf(1));
        Check.noElement("P38 a change is no step", () -> x.callerOf(1));
        Check.due("P39 a change is no step", 0, x.writes(1));
        x.forward(1);
        x.back(1);
        Check.noElement("P36 not up to here", () -> x.lastWrite(1));
        Check.noElement("P37 not up to here", () -> x.writerOf(1));
        Check.noElement("P38 not up to here", () -> x.callerOf(1));
        Check.due("P39 not up to here", 0, x.writes(1));
        x.forward(1);
        Check.due("P36 now", 1, x.lastWrite(1));
        Check.due("P37 now", 1, x.writerOf(1));
        Check.due("P38 now", -1, x.callerOf(1));
        Check.due("P39 now", 1, x.writes(1));
    }

    private static void writes() {
        Rewinder x = Check.loop(399);
        Check.due("P36 the last one", 398, x.lastWrite(5));
        Check.due("P36 of the first round", 3 * 70 - 1, x.lastWrite(6));
        Check.due("P39 rounds", 3, x.writes(5));
        Check.due("P39 rounds", 2, x.writes(6));
        Check.due("P39 rounds", 2, x.writes(0));
        Check.due("P37 the place", 2, x.writerOf(5));
        x.go(398);
        Check.due("P36 ahead of it", 3 * 69 - 1, x.lastWrite(5));
        Check.due("P39 ahead of it", 2, x.writes(5));
        x.go(3);
        Check.due("P36 the first one", 2, x.lastWrite(1));
        x.branch();
        x.forward(3);
        Check.due("P36 in a branch", 5, x.lastWrite(2));
        Check.due("P36 from the run ahead of it", 2, x.lastWrite(1));
        Check.noElement("P36 not from the rest of that run", () -> x.lastWrite(3));
        Rewinder same = Check.begun("s 0 0; s 0 0; k 0 64; s 0 1");
        same.forward(9);
        Check.due("P39 also the same number", 3, same.writes(0));
        Check.due("P37 the last place", 3, same.writerOf(0));
        Rewinder patched = Check.begun("k 0 1; s 1 0; j 0 1");
        patched.forward(3);
        patched.patch(1, 's', 0, 0, 0);
        patched.forward(2);
        Check.due("P39 with the code of then", 1, patched.writes(0));
        Check.due("P39 with the code of then", 1, patched.writes(1));
        Check.due("P36 with the code of then", 3, patched.lastWrite(1));
    }

    private static void callers() {
        Rewinder x = Check.begun("c 0 3; c 0 4; s 0 1; c 0 4; s 1 0; r; r; y", 7);
        x.forward(3);
        Check.due("P38 the last frame", 4, x.callerOf(0));
        Check.due("P37 there", 4, x.writerOf(0));
        x.forward(20);
        Check.due("P39 all", 6, x.writes(0));
        Check.due("P38 the last one had no frame", -1, x.callerOf(0));
        Rewinder y = Check.begun("c 0 2; s 0 0; s 1 1; r; k 0 9; c 0 7; y; s 0 0; r", 4);
        y.forward(4);
        Check.due("P38 without a frame", -1, y.callerOf(0));
        y.go(2);
        Check.due("P38 in the call", 1, y.callerOf(0));
        y.go(4);
        y.swap();
        y.forward(3);
        Check.due("P38 of the process 1", 6, y.callerOf(9));
        Check.due("P37 of the process 1", 7, y.writerOf(9));
        y.forward(1);
        Check.due("P38 ahead of the step", 6, y.callerOf(9));
    }

    private static void atTheLimit() {
        Rewinder x = Check.begun("c 0 2; r; k 1 9; j 1 2");
        Check.stepForward(x, 399);
        Check.noElement("P36 none", () -> x.lastWrite(0));
        x.patch(2, 's', 0, 1, 0);
        x.forward(1);
        Check.due("P26 not over", false, x.isOver(0));
        Check.due("P24 at the limit", 400, x.end());
        Check.due("P27 at the place behind", 3, x.place(0));
        Check.due("P36 the step 400", 399, x.lastWrite(0));
        Check.due("P37 the step 400", 2, x.writerOf(0));
        Check.due("P38 the step 400", 1, x.callerOf(0));
        Check.due("P39 the step 400", 1, x.writes(0));
        Check.due("P43 the step 400", 9, x.pages());
        x.branch();
        Check.due("P36 in a branch", 399, x.lastWrite(0));
        Check.due("P37 in a branch", 2, x.writerOf(0));
        Check.due("P38 in a branch", 1, x.callerOf(0));
        Check.due("P39 in a branch", 1, x.writes(0));
    }

    private static void firstAbove() {
        Rewinder x = Check.loop(399);
        Check.due("P40 the first round", 15, x.firstAbove(5, 4));
        Check.due("P40 not equal", 3 * 69, x.firstAbove(5, 5));
        Check.due("P40 at 0", 0, x.firstAbove(5, -1));
        Check.due("P40 at 0", 0, x.firstAbove(5, Integer.MIN_VALUE));
        Check.due("P40 this one included", 399, x.firstAbove(5, 132));
        Check.noElement("P40 never", () -> x.firstAbove(5, 133));
        Check.noElement("P40 never", () -> x.firstAbove(5, Integer.MAX_VALUE));
        x.go(398);
        Check.noElement("P40 not up to here", () -> x.firstAbove(5, 132));
        Rewinder y = Check.begun("k 0 9; s 0 0");
        y.change(9, 100);
        Check.due("P40 behind the events of 0", 0, y.firstAbove(9, 50));
        y.forward(2);
        y.change(9, -1);
        y.change(8, 30);
        y.change(8, 20);
        Check.due("P40 still the first", 0, y.firstAbove(9, 8));
        Check.noElement("P40 a moment is behind all its events", () -> y.firstAbove(8, 25));
        Check.due("P40 behind all its events", 2, y.firstAbove(8, 19));
        Check.due("P40 goes nowhere", 2, y.now());
        Check.due("P40 counts nothing", 0, y.again());
    }
}
