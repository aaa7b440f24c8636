/** Promises 15 to 19: feed, tick, swap, change, patch. */
public final class EventTest {
    public static void main(String[] args) {
        feed();
        tick();
        swap();
        change();
        patch();
        patchRefuses();
        Check.finish();
    }

    private static void feed() {
        Rewinder none = new Rewinder();
        Check.state("P15 no run", () -> none.feed(1));
        Rewinder x = Check.begun("i 0; i 1; i 2; i 3");
        Check.due("P15 one", 1, x.feed(5));
        Check.due("P15 two", 2, x.feed(Integer.MIN_VALUE));
        x.forward(1);
        Check.due("P15 one is gone", 2, x.feed(Integer.MAX_VALUE));
        x.forward(3);
        Check.due("P15 first", 5, x.register(0, 0));
        Check.due("P15 second", Integer.MIN_VALUE, x.register(0, 1));
        Check.due("P15 third", Integer.MAX_VALUE, x.register(0, 2));
        Check.due("P15 none left", -1, x.register(0, 3));
        Check.due("P15 also when both are over", 1, x.feed(6));
        x.back(1);
        Check.unsupported("P15 not at the end", () -> x.feed(7));
        Check.due("P15 refused changes nothing", 4, x.events());
        x.go(0);
        Check.due("P15 console again", 2, x.console());
        x.go(4);
        Check.due("P15 console again", 1, x.console());
    }

    private static void tick() {
        Rewinder none = new Rewinder();
        Check.state("P16 no run", () -> none.tick(1));
        Rewinder x = Check.begun("t 0; t 1");
        Check.due("P16 at first", 0, x.tick(5));
        Check.due("P16 before", 5, x.tick(-6));
        x.forward(1);
        Check.due("P16 before", -6, x.tick(7));
        x.forward(1);
        Check.due("P16 read", -6, x.register(0, 0));
        Check.due("P16 read", 7, x.register(0, 1));
        x.back(1);
        Check.unsupported("P16 not at the end", () -> x.tick(8));
        Check.due("P16 refused changes nothing", 7, x.clock());
        x.back(1);
        Check.due("P16 back", -6, x.clock());
    }

    private static void swap() {
        Rewinder none = new Rewinder();
        Check.state("P17 no run", none::swap);
        Rewinder x = Check.begun("k 0 1; k 1 2; k 2 3", 1);
        Check.due("P17 to 1", 1, x.swap());
        x.forward(1);
        Check.due("P17 1 did it", 2, x.register(1, 1));
        Check.due("P17 to 0", 0, x.swap());
        Check.due("P17 to 1", 1, x.swap());
        x.forward(1);
        Check.due("P17 1 is over", 0, x.present());
        Check.due("P17 it stays", 0, x.swap());
        Check.due("P17 kept all the same", 4, x.events());
        x.go(1);
        Check.due("P17 behind both", 1, x.present());
        Check.unsupported("P17 not at the end", x::swap);
        Rewinder alone = Check.begun("k 0 1");
        Check.due("P17 alone", 0, alone.swap());
    }

    private static void change() {
        Rewinder none = new Rewinder();
        Check.state("P18 no run", () -> none.change(64, 1));
        Rewinder x = Check.begun("k 0 7; l 1 0; s 0 1");
        Check.due("P18 before", 0, x.change(7, 70));
        Check.due("P18 before", 70, x.change(7, 71));
        Check.due("P18 the last cell", 0, x.change(63, -1));
        Check.index("P18 no cell 64", () -> x.change(64, 1));
        Check.index("P18 no cell -1", () -> x.change(-1, 1));
        x.forward(2);
        Check.due("P18 read", 71, x.register(0, 1));
        Check.due("P18 before", 71, x.change(7, 5));
        x.forward(1);
        Check.due("P18 written", 71, x.cell(7));
        x.go(2);
        Check.due("P18 again", 5, x.cell(7));
        Check.index("P18 the cell comes first", () -> x.change(64, 1));
        Check.unsupported("P18 not at the end", () -> x.change(7, 1));
        x.go(1);
        Check.due("P18 ahead of it", 71, x.cell(7));
    }

    private static void patch() {
        Rewinder none = new Rewinder();
        Check.state("P19 no run", () -> none.patch(-1, 'z', 9, 9, 9));
        Rewinder x = Check.begun("k 0 1; k 1 2; j 0 0");
        x.forward(3);
        Check.due("P19 letter before", 'k', x.patch(1, 't', 1, 0, 0));
        Check.due("P19 letter before", 't', x.patch(1, 'k', 1, -9, 0));
        x.forward(2);
        Check.due("P19 from now on", -9, x.register(0, 1));
        x.go(2);
        Check.due("P19 not ahead of it", 2, x.register(0, 1));
        x.forward(1);
        x.go(5);
        Check.due("P19 done again", -9, x.register(0, 1));
        Check.stepForward(x, 55);
        Check.due("P19 letter before", 'k', x.patch(0, 'o', 1, 0, 0));
        Check.due("P19 the last one", 'j', x.patch(2, 'r', 0, 0, 0));
        x.go(20);
        x.forward(40);
        Check.due("P19 in snapshots", -9, x.register(0, 1));
        x.forward(60);
        Check.due("P19 both", 63, x.end());
        Check.due("P19 put out", -9, x.outputAt(0));
        Check.due("P19 kinds", 'p', x.kindOf(3));
        Check.due("P19 is the code of the run alone", 3, x.begin());
        x.forward(3);
        Check.due("P19 the first code", 2, x.register(0, 1));
        Rewinder three = Check.begun("k 1 5; k 2 7; + 0 0 0; k 0 1");
        Check.due("P19 letter before", '+', three.patch(2, '-', 3, 1, 2));
        three.forward(3);
        Check.due("P19 all three numbers", -2, three.register(0, 3));
    }

    private static void patchRefuses() {
        Rewinder x = Check.machine("k 0 1; k 1 2");
        x.begin();
        x.add('k', 2, 3, 0);
        Check.index("P19 not in the run", () -> x.patch(2, 'k', 0, 0, 0));
        Check.index("P19 ahead of 0", () -> x.patch(-1, 'k', 0, 0, 0));
        Check.index("P19 far", () -> x.patch(Integer.MAX_VALUE, 'k', 0, 0, 0));
        Check.index("P19 the place comes first", () -> x.patch(2, 'z', 0, 0, 0));
        Check.argument("P19 no such letter", () -> x.patch(1, 'z', 0, 0, 0));
        Check.argument("P19 no such register", () -> x.patch(1, 'k', 4, 0, 0));
        Check.argument("P19 no such number", () -> x.patch(1, 'k', 0, 1000, 0));
        Check.argument("P19 no such place", () -> x.patch(1, 'j', 0, 41, 0));
        Check.argument("P19 no such register", () -> x.patch(1, '+', 0, 0, 4));
        x.forward(2);
        x.back(1);
        Check.index("P19 the place comes first", () -> x.patch(2, 'k', 0, 0, 0));
        Check.argument("P19 the letter comes next", () -> x.patch(1, 'z', 0, 0, 0));
        Check.unsupported("P19 not at the end", () -> x.patch(1, 'k', 0, 0, 0));
        Check.due("P19 refused changes nothing", 0, x.events());
        x.forward(1);
        Check.due("P19 when over, too", 'k', x.patch(0, 'c', -7, 40, 99));
        Check.due("P19 kept", 1, x.events());
    }
}
