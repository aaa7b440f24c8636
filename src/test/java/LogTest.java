/** Promises 50 to 54: events, kindOf, countOf, without, with. */
public final class LogTest {
    public static void main(String[] args) {
        noRun();
        kept();
        without();
        lateSums();
        with();
        order();
        inBranches();
        Check.finish();
    }

    private static void noRun() {
        Rewinder x = Check.machine("k 0 1");
        Check.state("P50", x::events);
        Check.state("P51", () -> x.kindOf(-1));
        Check.state("P52", () -> x.countOf(-1));
        Check.state("P53", () -> x.without(-1));
        Check.state("P54", () -> x.with(-1, 0));
    }

    private static void kept() {
        Rewinder x = Check.begun(Check.LOOP);
        Check.due("P50 none", 0, x.events());
        Check.index("P51 none", () -> x.kindOf(0));
        Check.index("P52 none", () -> x.countOf(0));
        Check.index("P53 none", () -> x.without(0));
        Check.index("P54 none", () -> x.with(0, 0));
        x.tick(0);
        x.swap();
        x.change(3, 0);
        x.forward(5);
        x.feed(9);
        x.patch(0, 'k', 2, 1, 0);
        Check.due("P50 also those that change nothing", 5, x.events());
        Check.due("P51", 't', x.kindOf(0));
        Check.due("P51", 'x', x.kindOf(1));
        Check.due("P51", 'm', x.kindOf(2));
        Check.due("P51", 'f', x.kindOf(3));
        Check.due("P51", 'p', x.kindOf(4));
        Check.due("P52", 0, x.countOf(2));
        Check.due("P52", 5, x.countOf(3));
        x.go(0);
        Check.due("P50 of the whole run", 5, x.events());
        Check.due("P52 of the whole run", 5, x.countOf(4));
        for (int wrong : new int[] {-1, 5, Integer.MAX_VALUE, Integer.MIN_VALUE}) {
            Check.index("P51 no such event", () -> x.kindOf(wrong));
            Check.index("P52 no such event", () -> x.countOf(wrong));
            Check.index("P53 no such event", () -> x.without(wrong));
            Check.index("P54 no such event", () -> x.with(wrong, 0));
        }
        Check.unsupported("P54 x", () -> x.with(1, 0));
        Check.unsupported("P54 p", () -> x.with(4, 0));
    }

    private static void without() {
        Rewinder x = Check.begun("i 0; t 1; k 2 1; j 2 2");
        x.tick(5);
        x.feed(6);
        x.change(9, 7);
        x.forward(31);
        Check.noElement("P53 no sum yet", () -> x.without(0));
        x.tick(4);
        x.forward(1);
        Check.due("P53 the clock", 32, x.without(0));
        Check.due("P53 the console", 32, x.without(1));
        Check.due("P53 a cell", 32, x.without(2));
        x.tick(8);
        Check.noElement("P53 the sum is ahead of the events", () -> x.without(4));
        x.forward(31);
        Check.noElement("P53 no sum since", () -> x.without(4));
        x.forward(1);
        Check.due("P53 the next sum", 64, x.without(4));
        x.go(2);
        Check.due("P53 wherever one is", 64, x.without(4));
        Check.due("P53 the first one", 32, x.without(0));
        Check.due("P53 goes nowhere", 2, x.now());

        Rewinder switched = Check.begun("i 1; j 1 3; r; k 0 1; + 0 0 0; r");
        switched.feed(0);
        Check.due("P53 over without a frame", 3, switched.forward(9));
        Check.noElement("P53 longer without it, with the same end", () -> switched.without(0));
        Rewinder shorter = Check.begun("i 1; + 1 1 2; k 2 1; + 1 1 2; j 1 3");
        shorter.feed(-5);
        Check.due("P53 a loop", 13, shorter.forward(20));
        Check.due("P53 no step more ahead of the end", 5, shorter.without(0));
        Check.due("P54 no step more ahead of the end", 11, shorter.with(0, -4));
        Check.noElement("P54 longer, with the same end", () -> shorter.with(0, -6));
    }

    private static void lateSums() {
        Rewinder x = Check.loop(380);
        x.tick(1);
        x.forward(3);
        Check.noElement("P53 ahead of the last sum", () -> x.without(0));
        x.forward(1);
        Check.due("P53 the last sum", 384, x.without(0));
        x.tick(2);
        x.forward(16);
        Check.noElement("P53 no sum at 400", () -> x.without(1));
        Check.due("P54 the last sum", 384, x.with(0, 2));
    }

    private static void with() {
        Rewinder x = Check.begun("k 2 1; t 1; l 3 0; i 0; j 2 1");
        x.tick(5);
        x.feed(6);
        x.change(9, 7);
        x.swap();
        x.patch(0, 'k', 2, 1, 0);
        x.forward(31);
        Check.noElement("P54 no sum yet", () -> x.with(0, 6));
        x.forward(1);
        Check.due("P54 t", 32, x.with(0, 6));
        Check.noElement("P54 t, the same", () -> x.with(0, 5));
        Check.due("P54 m", 32, x.with(2, 8));
        Check.noElement("P54 m, the same", () -> x.with(2, 7));
        Check.noElement("P54 f, read over by a later one", () -> x.with(1, 7));
        Check.noElement("P54 f, the same", () -> x.with(1, 6));
        Check.unsupported("P54 x", () -> x.with(3, 0));
        Check.unsupported("P54 p", () -> x.with(4, 0));
        Check.noElement("P53 x that changed nothing", () -> x.without(3));
        Check.noElement("P53 p that changed nothing", () -> x.without(4));
        x.feed(3);
        x.feed(4);
        x.forward(32);
        Check.noElement("P54 both are read by now", () -> x.with(5, 9));
        Check.due("P54 the same as before", 32, x.with(2, 8));
        Check.due("P54 does not change the run", 7, x.cell(9));
        Check.due("P58 sound", true, x.isSound());
    }

    private static void order() {
        Rewinder x = Check.begun(Check.LOOP);
        x.tick(1);
        x.tick(2);
        x.change(60, 5);
        x.change(60, 6);
        x.feed(1);
        x.feed(2);
        x.forward(32);
        Check.noElement("P53 overtaken", () -> x.without(0));
        Check.due("P53 the last one", 32, x.without(1));
        Check.noElement("P54 overtaken", () -> x.with(0, 9));
        Check.noElement("P53 overtaken", () -> x.without(2));
        Check.due("P53 the last one", 32, x.without(3));
        Check.due("P53 the console keeps both", 32, x.without(4));
        Check.due("P54 the console keeps both", 32, x.with(5, 1));
    }

    private static void inBranches() {
        Rewinder x = Check.begun(Check.LOOP);
        x.tick(1);
        x.forward(40);
        x.go(35);
        x.branch();
        Check.due("P53 with the sums of the other run", 32, x.without(0));
        x.go(32);
        x.branch();
        Check.due("P53 with the sum of its end", 32, x.without(0));
        x.go(31);
        x.branch();
        Check.noElement("P53 ahead of the sum", () -> x.without(0));
        x.tick(2);
        x.forward(1);
        Check.noElement("P53 overtaken ahead of the sum", () -> x.without(0));
        Check.due("P53 with its own sum", 32, x.without(1));
    }
}
