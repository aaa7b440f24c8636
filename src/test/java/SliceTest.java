/** Promises 48 and 49: slice, hangsOn. */
public final class SliceTest {
    public static void main(String[] args) {
        refused();
        letters();
        changes();
        loop();
        processes();
        rows();
        atTheLimit();
        Check.finish();
    }

    private static void refused() {
        Rewinder none = new Rewinder();
        Check.state("P48", () -> none.slice(64));
        Check.state("P49", () -> none.hangsOn(64, 0));
        Rewinder x = Check.loop(10);
        for (int wrong : new int[] {-1, 64, Integer.MAX_VALUE, Integer.MIN_VALUE}) {
            Check.index("P48 no such cell", () -> x.slice(wrong));
            Check.index("P49 no such cell", () -> x.hangsOn(wrong, 1));
        }
        for (int step : new int[] {0, -1, 401, 448, 1000, Integer.MAX_VALUE, Integer.MIN_VALUE, 64, -63}) {
            Check.due("P49 no such step " + step, false, x.hangsOn(1, step));
        }
    }

    private static void atTheLimit() {
        Rewinder x = Check.begun("k 0 0; k 1 9; j 1 1");
        Check.stepForward(x, 399);
        x.patch(1, 's', 0, 1, 0);
        x.forward(1);
        Check.due("P49 the step 400", true, x.hangsOn(0, 400));
        Check.due("P49 the one ahead", false, x.hangsOn(0, 399));
        Check.due("P49 the 'k'", true, x.hangsOn(0, 398));
        Check.due("P49 no step 0", false, x.hangsOn(0, 0));
        Check.due("P48 the step 400, and both 'k'", 3, x.slice(0));
    }

    private static void steps(String what, Rewinder x, int cell, int... steps) {
        Check.due(what + ": how many", steps.length, x.slice(cell));
        for (int step = 1; step <= x.end(); step++) {
            boolean due = false;
            for (int one : steps) {
                due |= one == step;
            }
            Check.due(what + ": step " + step, due, x.hangsOn(cell, step));
        }
    }

    private static void letters() {
        Rewinder x = Check.begun("k 0 5; k 1 6; + 2 0 1; s 0 2; l 3 0; k 0 7; s 0 3; < 1 1 3; t 2; s 2 1; i 3; s 0 3;"
            + " o 3; j 3 14; c 0 15; - 0 3 3; * 1 0 2; s 1 0");
        steps("at first", x, 5);
        x.forward(20);
        Check.due("all are done", 18, x.now());
        steps("+ and s", x, 5, 1, 2, 3, 4);
        // The last step sets the cell 0: - hangs on the i, * on it and on the t.
        steps("-, *, s over t", x, 0, 18, 17, 16, 11, 9);
        steps("i", x, 7, 12, 11, 6);
        x.go(11);
        steps("l: the number of the cell, and the cell", x, 7, 7, 6, 5, 4, 3, 2, 1);
        steps("<: both", x, 0, 10, 9, 8, 5, 4, 3, 2, 1);
        steps("a cell that nothing set", x, 1);
        Rewinder reads = Check.begun("k 0 3; s 0 0; k 1 4; s 1 1; l 2 0; s 2 1");
        reads.forward(9);
        Check.due("the cell that a cell tells", 4, reads.cell(3));
        steps("s: the register that tells the cell", reads, 3, 6, 5, 3, 2, 1);
        steps("not the cell that it is told in", reads, 4, 4, 3);
        Rewinder one = Check.begun("k 0 3; k 1 4; s 1 1; l 2 0 1; s 3 2");
        one.forward(5);
        steps("l: its c is of no meaning", one, 0, 5, 4, 1);
    }

    private static void changes() {
        Rewinder x = Check.begun("k 0 3; s 0 0; l 1 0; k 2 5; s 2 1");
        x.forward(2);
        steps("set", x, 3, 1, 2);
        x.change(3, 9);
        steps("changed", x, 3);
        x.forward(3);
        steps("hangs on nothing of it", x, 5, 5, 4, 3, 1);
        x.go(2);
        steps("behind the change", x, 3);
        x.go(1);
        x.branch();
        x.forward(4);
        steps("without it", x, 5, 5, 4, 3, 2, 1);
        Rewinder zero = Check.begun("l 1 0; k 2 5; s 2 1");
        zero.change(0, 7);
        zero.forward(3);
        steps("a change at 0", zero, 5, 3, 2, 1);
    }

    private static void loop() {
        Rewinder x = Check.loop(399);
        // The cell 5 got 133: its 's', all 133 '+', and the 'k'.
        Check.due("P48 long", 135, x.slice(5));
        Check.due("P49 the last step", true, x.hangsOn(5, 399));
        Check.due("P49 a j", false, x.hangsOn(5, 397));
        Check.due("P49 the first +", true, x.hangsOn(5, 2));
        Check.due("P49 across words", true, x.hangsOn(5, 65));
        Check.due("P49 across words", false, x.hangsOn(5, 64));
        x.go(6);
        Check.due("P48 at the present moment", 4, x.slice(2));
        Check.due("P48 not yet", 0, x.slice(5));
        Check.due("P49 not yet", false, x.hangsOn(5, 2));
        x.go(0);
        Check.due("P48 at 0", 0, x.slice(2));
    }

    private static void processes() {
        Rewinder x = Check.begun("k 0 1; y; k 1 2; s 0 1; k 0 9; k 1 8; y", 4);
        x.forward(9);
        Check.due("both have registers of their own", 2, x.cell(1));
        steps("those of the process 0", x, 1, 1, 6, 7);
    }

    private static void rows() {
        Rewinder x = Check.begun("k 0 60; s 0 0; k 1 61; s 1 1; k 2 62; s 2 2; k 3 63; s 3 3; y;"
            + " k 0 0; k 1 1; k 2 2; k 3 3; s 0 1; s 1 2; s 2 3; s 3 0; l 1 0; s 2 1", 9);
        x.forward(9);
        Check.due("P49 asked first of all", true, x.hangsOn(60, 1));
        Check.due("P25 the process 1", 1, x.present());
        x.forward(4);
        steps("cells stay as they were", x, 60, 1, 2);
        steps("cells stay as they were", x, 61, 3, 4);
        steps("cells stay as they were", x, 62, 5, 6);
        steps("cells stay as they were", x, 63, 7, 8);
        x.forward(4);
        steps("registers of the process 1", x, 0, 10, 11, 14);
        steps("registers of the process 1", x, 1, 11, 12, 15);
        steps("registers of the process 1", x, 2, 12, 13, 16);
        steps("registers of the process 1", x, 3, 10, 13, 17);
        x.forward(2);
        steps("through the cell 0", x, 2, 10, 11, 12, 14, 18, 19);
        x.change(0, 3);
        steps("the cell 0 changed", x, 0);
        steps("the others stay", x, 2, 10, 11, 12, 14, 18, 19);
        x.go(18);
        steps("ahead of it", x, 0, 10, 11, 14);
        x.go(0);
        steps("at 0", x, 0);
        Rewinder told = Check.begun("k 2 5; l 3 2; s 3 3");
        told.forward(3);
        steps("the register that tells the cell that is read", told, 0, 1, 2, 3);
        Rewinder y = Check.begun("k 0 1; k 1 2; k 2 3; - 3 1 0; s 3 3; - 3 0 2; s 0 3; < 3 2 1; s 0 3");
        y.forward(5);
        steps("b, then c", y, 1, 1, 2, 4, 5);
        y.forward(2);
        steps("b, then c", y, 1, 1, 3, 6, 7);
        y.forward(2);
        steps("b, then c", y, 1, 1, 2, 3, 8, 9);
    }
}
