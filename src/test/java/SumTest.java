/** Promises 55 and 58: sum, isSound. */
public final class SumTest {
    public static void main(String[] args) {
        noRun();
        atFirst();
        ofAll();
        sound();
        Check.finish();
    }

    private static void noRun() {
        Rewinder x = Check.machine("k 0 1");
        Check.state("P55", x::sum);
        Check.state("P58", x::isSound);
    }

    private static long sumOf(long... items) {
        long sum = 7;
        for (long item : items) {
            sum = 31 * sum + item;
        }
        return sum;
    }

    private static void atFirst() {
        long[] items = new long[64 + 7 + 7 + 4];
        items[64 + 7 + 5] = 1;
        Check.due("P55 at first", sumOf(items), Check.begun("k 0 1").sum());
        items[64 + 5] = 1;
        Check.due("P55 without code", sumOf(items), emptySum());
        items[64 + 5] = 0;
        items[64 + 7 + 4] = 39;
        Check.due("P55 where the process 1 begins", sumOf(items), Check.begun("k 0 1", 39).sum());
    }

    private static long emptySum() {
        Rewinder x = new Rewinder();
        x.begin();
        return x.sum();
    }

    /** The sum made of what the face tells; what is in the console it does not tell. */
    private static long told(Rewinder x, int... console) {
        long sum = 7;
        for (int cell = 0; cell < 64; cell++) {
            sum = 31 * sum + x.cell(cell);
        }
        for (int process = 0; process < 2; process++) {
            for (int register = 0; register < 4; register++) {
                sum = 31 * sum + x.register(process, register);
            }
            sum = 31 * sum + x.place(process);
            sum = 31 * sum + (x.isOver(process) ? 1 : 0);
            sum = 31 * sum + x.frames(process);
            for (int frame = 0; frame < x.frames(process); frame++) {
                sum = 31 * sum + x.returnsTo(process, frame);
            }
        }
        sum = 31 * sum + x.present();
        sum = 31 * sum + x.clock();
        sum = 31 * sum + console.length;
        for (int number : console) {
            sum = 31 * sum + number;
        }
        sum = 31 * sum + x.outputs();
        for (int i = 0; i < x.outputs(); i++) {
            sum = 31 * sum + x.outputAt(i);
        }
        return sum;
    }

    private static void ofAll() {
        Rewinder x = Check.begun("c 0 2; r; k 0 -9; c 0 5; r; s 0 0; i 1; o 1; y; o 0; r;"
            + " c 0 13; r; c 0 15; r; t 3; y", 11);
        x.feed(100);
        x.feed(-200);
        x.feed(300);
        x.tick(Integer.MIN_VALUE);
        Check.due("P55 the console", told(x, 100, -200, 300), x.sum());
        x.forward(8);
        Check.due("P55 the process 1", 1, x.present());
        Check.due("P55 calls", told(x, -200, 300), x.sum());
        x.forward(4);
        Check.due("P55 calls of both", 2, x.frames(1));
        Check.due("P55 calls of both", 2, x.frames(0));
        Check.due("P55 all", told(x, -200, 300), x.sum());
        long before = x.sum();
        x.forward(20);
        Check.due("P55 over", told(x, -200, 300), x.sum());
        x.go(12);
        Check.due("P55 again", before, x.sum());
    }

    private static void sound() {
        Rewinder x = Check.begun(Check.LOOP);
        Check.due("P58 at 0", true, x.isSound());
        x.change(5, 9);
        x.tick(3);
        x.feed(4);
        x.patch(2, 's', 1, 2, 0);
        Check.due("P58 events at 0", true, x.isSound());
        Check.stepForward(x, 400);
        x.change(5, 9);
        for (int moment = 400; moment >= 0; moment -= 23) {
            x.go(moment);
            Check.due("P58 at " + moment, true, x.isSound());
            Check.due("P58 goes nowhere", moment, x.now());
        }
    }
}
