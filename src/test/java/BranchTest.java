/** Promises 45 to 47: branch, select, difference. */
public final class BranchTest {
    public static void main(String[] args) {
        noRun();
        branch();
        branchKeeps();
        select();
        selectOther();
        selectDeep();
        difference();
        differenceOfEvents();
        Check.finish();
    }

    private static void noRun() {
        Rewinder x = Check.machine("k 0 1");
        Check.state("P45", x::branch);
        Check.state("P46", () -> x.select(-1));
        Check.state("P47", () -> x.difference(-1));
    }

    private static void branch() {
        Rewinder x = Check.loop(100);
        x.go(40);
        Check.due("P45 the first", 1, x.branch());
        Check.due("P45 the moment stays", 40, x.now());
        Check.due("P45 is the end", 40, x.end());
        Check.due("P45 its state", 13, x.register(0, 1));
        Check.due("P45 changes there", 13, x.change(13, 5));
        Check.due("P45 goes on", 43, x.forward(3));
        Check.due("P45 of a branch", 2, x.branch());
        Check.due("P45 more", 3, x.branch());
        Check.due("P45 more", 4, x.branch());
        Check.unsupported("P45 5 runs", x::branch);
        Check.due("P45 refused changes nothing", 4, x.select(0));
        Check.due("P45 the first one goes on as it was", 100, x.end());
        Check.due("P45 without the change", 13, x.cell(13));
        x.begin();
        Check.due("P45 numbers from 1 on again", 1, x.branch());
        Rewinder limit = Check.loop(400);
        limit.go(390);
        limit.branch();
        Check.due("P6 400 with what was ahead of it", 400, limit.forward(60));
    }

    private static void branchKeeps() {
        Rewinder x = Check.begun(Check.LOOP);
        x.feed(1);
        x.forward(20);
        x.tick(2);
        x.tick(3);
        x.forward(5);
        x.change(50, 4);
        x.go(20);
        x.branch();
        Check.due("P45 events up to the count", 3, x.events());
        Check.due("P45 that of the count", 20, x.countOf(2));
        Check.due("P45 clock", 3, x.clock());
        Check.due("P45 not what came behind", 0, x.cell(50));
        x.swap();
        x.forward(20);
        Check.due("P45 its own event", 'x', x.kindOf(3));
        x.go(19);
        Check.due("P45 ahead of the events", 0, x.clock());
        x.select(0);
        Check.due("P45 the other one keeps its own", 'm', x.kindOf(3));
        Check.due("P45 and its end", 25, x.end());
        x.go(19);
        x.branch();
        Check.due("P45 not those behind", 1, x.events());
        x.forward(2);
        Check.due("P45 so they do not happen", 0, x.clock());
        Check.due("P45 sound", true, x.isSound());
    }

    private static void select() {
        Rewinder x = Check.loop(50);
        Check.index("P46 no run 1", () -> x.select(1));
        Check.index("P46 no run -1", () -> x.select(-1));
        Check.index("P46 no run 5", () -> x.select(5));
        x.go(20);
        x.branch();
        x.tick(7);
        x.forward(10);
        Check.index("P46 no run 2", () -> x.select(2));
        Check.due("P46 before", 1, x.select(0));
        Check.due("P46 at its end", 50, x.now());
        Check.due("P46 its clock", 0, x.clock());
        x.go(3);
        Check.due("P46 before", 0, x.select(1));
        Check.due("P46 at its end", 30, x.now());
        Check.due("P46 its clock", 7, x.clock());
        x.go(5);
        Check.due("P46 itself", 1, x.select(1));
        Check.due("P46 at its end", 30, x.now());
        x.tick(8);
        x.select(0);
        x.select(1);
        Check.due("P46 behind the events of its end", 8, x.clock());
        Check.due("P46 sound", true, x.isSound());
        x.select(0);
        x.go(32);
        x.branch();
        x.tick(9);
        x.select(0);
        Check.due("P46 before", 0, x.select(2));
        Check.due("P46 behind the events of the count of its snapshot", 9, x.clock());
    }

    private static void selectOther() {
        Rewinder x = Check.begun("k 0 1; j 1 4; c 0 9; k 2 2; c 0 6; k 2 3; o 0; j 2 5; k 3 3; j 0 9");
        x.feed(1);
        x.feed(2);
        x.branch();
        x.feed(3);
        x.patch(0, 'i', 1, 0, 0);
        x.patch(8, 'o', 1, 0, 0);
        x.patch(9, 'j', 1, 8, 0);
        x.forward(36);
        long second = x.sum();
        int back = x.returnsTo(0, 0);
        x.select(0);
        x.change(63, 4);
        x.patch(8, 'o', 0, 0, 0);
        x.patch(9, 'j', 0, 8, 0);
        x.forward(36);
        long first = x.sum();
        Check.due("P46 other frames", true, back != x.returnsTo(0, 0));
        Check.due("P46 as many frames", 1, x.frames(0));
        x.select(1);
        Check.due("P46 all of the state", second, x.sum());
        Check.due("P46 its frame", back, x.returnsTo(0, 0));
        x.select(0);
        Check.due("P46 all of the state", first, x.sum());
    }

    private static void selectDeep() {
        Rewinder x = Check.begun("c 0 1; c 0 2; c 0 3; c 0 4; c 0 5; c 0 6; k 0 1; j 0 6;"
            + " c 0 9; c 0 10; c 0 11; c 0 12; c 0 13; k 0 1; j 0 13");
        x.branch();
        x.patch(0, 'c', 0, 8, 0);
        x.forward(40);
        x.select(0);
        x.forward(40);
        for (int run = 1; run >= 0; run--) {
            x.select(run);
            Check.due("P46 six frames", 6, x.frames(0));
            for (int frame = 0; frame < 6; frame++) {
                int due = run == 0 ? 6 - frame : frame == 5 ? 1 : 13 - frame;
                Check.due("P46 all frames of the run " + run + ": " + frame, due, x.returnsTo(0, frame));
            }
        }
    }

    private static void difference() {
        Rewinder x = Check.loop(100);
        Check.noElement("P47 itself", () -> x.difference(0));
        Check.index("P47 no run 1", () -> x.difference(1));
        Check.index("P47 no run -1", () -> x.difference(-1));
        x.go(40);
        x.branch();
        Check.noElement("P47 the same up to the end", () -> x.difference(0));
        x.forward(60);
        Check.noElement("P47 the same steps", () -> x.difference(0));
        x.patch(1, '+', 1, 1, 1);
        x.forward(20);
        Check.noElement("P47 a change behind the end of the other one", () -> x.difference(0));
        x.go(60);
        x.branch();
        x.patch(1, '+', 1, 1, 1);
        Check.noElement("P47 the code is not in the sum", () -> x.difference(0));
        x.forward(9);
        Check.due("P47 from the step on", 62, x.difference(0));
        Check.due("P47 from the step on", 62, x.difference(1));
        Check.due("P47 goes nowhere", 69, x.now());
        x.select(0);
        x.go(3);
        Check.due("P47 from the other side, wherever one is", 62, x.difference(2));
    }

    private static void differenceOfEvents() {
        Rewinder x = Check.loop(30);
        x.tick(1);
        x.go(29);
        x.branch();
        x.forward(1);
        Check.due("P47 behind the events", 30, x.difference(0));
        x.tick(2);
        Check.due("P47 another number", 30, x.difference(0));
        x.tick(1);
        Check.noElement("P47 the same behind all events", () -> x.difference(0));
        x.feed(3);
        Check.due("P47 the console", 30, x.difference(0));
        Rewinder zero = Check.begun(Check.LOOP);
        zero.branch();
        zero.change(63, 1);
        Check.due("P47 at 0", 0, zero.difference(0));
        // 31 times the one cell is the next one, so that the sums are equal.
        zero.change(62, -31);
        zero.change(61, 1);
        zero.change(63, 0);
        Check.noElement("P47 the sums alone", () -> zero.difference(0));
    }
}
