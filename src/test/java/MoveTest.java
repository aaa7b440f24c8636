/** Promises 6 to 14: forward, back, go, goOn, goBack, next, finish, backNext, backFinish. */
public final class MoveTest {
    private static final String CALLS = "c 0 3; k 0 1; j 0 0; c 0 6; k 1 2; r; k 2 3; r";

    public static void main(String[] args) {
        forward();
        back();
        go();
        goOn();
        goOnAtTheLimit();
        goBack();
        next();
        nextOfTwo();
        finish();
        backNext();
        backFinish();
        Check.finish();
    }

    private static void forward() {
        Rewinder none = new Rewinder();
        Check.state("P6 no run", () -> none.forward(0));
        Rewinder x = Check.begun(Check.LOOP);
        Check.argument("P6 0 steps", () -> x.forward(0));
        Check.argument("P6 61 steps", () -> x.forward(61));
        Check.argument("P6 -1 steps", () -> x.forward(-1));
        Check.argument("P6 least", () -> x.forward(Integer.MIN_VALUE));
        Check.due("P6 refused goes nowhere", 0, x.end());
        Check.due("P6 one", 1, x.forward(1));
        Check.due("P6 sixty", 61, x.forward(60));
        x.go(10);
        Check.due("P6 ahead of the end", 15, x.forward(5));
        Check.due("P6 the end stays", 61, x.end());
        Check.due("P6 to the end", 61, x.forward(46));
        x.go(15);
        Check.due("P6 beyond the end", 75, x.forward(60));
        Check.due("P6 the new end", 75, x.end());
        Check.stepForward(x, 300);
        Check.due("P6 near the limit", 375, x.now());
        Check.due("P6 to the limit", 400, x.forward(60));
        Check.due("P6 at the limit", 400, x.forward(1));
        x.go(399);
        Check.due("P6 to the limit again", 400, x.forward(60));
        Rewinder y = Check.begun("k 0 1; k 0 2");
        Check.due("P6 up to the end of both", 2, y.forward(60));
        Check.due("P6 no step more", 2, y.forward(1));
    }

    private static void back() {
        Rewinder none = new Rewinder();
        Check.state("P7 no run", () -> none.back(0));
        Rewinder x = Check.loop(100);
        Check.argument("P7 0 steps", () -> x.back(0));
        Check.argument("P7 401 steps", () -> x.back(401));
        Check.argument("P7 -1 steps", () -> x.back(-1));
        Check.due("P7 refused goes nowhere", 100, x.now());
        Check.due("P7 one", 99, x.back(1));
        Check.due("P7 its state", 33, x.register(0, 1));
        Check.due("P7 many", 9, x.back(90));
        Check.due("P7 its state", 3, x.register(0, 1));
        Check.due("P7 up to 0", 0, x.back(400));
        Check.due("P7 its state", 0, x.register(0, 1));
        Check.due("P7 no more", 0, x.back(1));
        Check.due("P7 the end stays", 100, x.end());
    }

    private static void go() {
        Rewinder none = new Rewinder();
        Check.state("P8 no run", () -> none.go(-1));
        Rewinder x = Check.loop(70);
        Check.index("P8 behind the end", () -> x.go(71));
        Check.index("P8 ahead of 0", () -> x.go(-1));
        Check.index("P8 far", () -> x.go(Integer.MAX_VALUE));
        Check.due("P8 refused goes nowhere", 70, x.now());
        Check.due("P8 before", 70, x.go(0));
        Check.due("P8 before", 0, x.go(70));
        Check.due("P8 before", 70, x.go(33));
        Check.due("P8 the moment", 33, x.now());
        Check.due("P8 its state", 11, x.cell(11));
        Check.due("P8 its state", 0, x.cell(12));
        Check.due("P8 to itself", 33, x.go(33));
        x.go(70);
        x.tick(9);
        x.forward(3);
        x.go(69);
        Check.due("P8 ahead of the events", 0, x.clock());
        x.go(70);
        Check.due("P8 behind the events of the moment", 9, x.clock());
        x.go(73);
        Check.due("P8 behind them", 9, x.clock());
    }

    private static void goOn() {
        Rewinder none = new Rewinder();
        Check.state("P9 no run", none::goOn);
        Rewinder x = Check.begun(Check.LOOP);
        Check.due("P9 without a break", 'l', x.goOn());
        Check.due("P9 60 steps", 60, x.now());
        x.go(0);
        x.addBreak(2, 1, 5, 0);
        Check.due("P9 in the run", 'b', x.goOn());
        Check.due("P9 there", 14, x.now());
        Check.due("P9 the end stays", 60, x.end());
        Check.due("P9 not there again", 'l', x.goOn());
        Check.due("P9 60 steps from there", 74, x.now());
        x.addBreak(2, 1, 27, 0);
        Check.due("P9 in new steps", 'b', x.goOn());
        Check.due("P9 there", 80, x.now());
        Check.due("P9 the new end", 80, x.end());
        x.go(70);
        x.removeBreak(1);
        Check.due("P9 over the end", 'l', x.goOn());
        Check.due("P9 60 steps in all", 130, x.now());
        x.addBreak(1, -1, 0, 50);
        x.go(0);
        x.removeBreak(0);
        Check.due("P9 passed over", 'l', x.goOn());
        x.go(100);
        Check.due("P9 passed over 50 times", 'b', x.goOn());
        Check.due("P9 the 51st moment at the place 1", 151, x.now());
        Check.due("P9 the next one, too", 'b', x.goOn());
        Check.due("P9 there", 154, x.now());

        Rewinder y = Check.begun("k 0 1; k 0 2; k 0 3");
        y.addBreak(0, -1, 0, 0);
        y.addBreak(3, -1, 0, 0);
        Check.due("P9 both are over", 'e', y.goOn());
        Check.due("P9 there", 3, y.now());
        Check.due("P9 no step more", 'e', y.goOn());
        y.addBreak(2, -1, 0, 0);
        y.go(1);
        y.addBreak(1, -1, 0, 0);
        Check.due("P9 one step or more", 'b', y.goOn());
        Check.due("P9 there", 2, y.now());

        Rewinder twice = Check.begun(Check.LOOP);
        twice.addBreak(3, -1, 0, 1);
        twice.addBreak(2, -1, 0, 3);
        Check.due("P9 the first that holds", 'b', twice.goOn());
        Check.due("P9 there", 6, twice.now());
    }

    private static void goOnAtTheLimit() {
        Rewinder x = Check.loop(399);
        x.addBreak(1, 1, 133, 0);
        Check.due("P9 a break at the limit", 'b', x.goOn());
        Check.due("P9 there", 400, x.now());
        Check.due("P9 no step more", 'l', x.goOn());
        x.removeBreak(0);
        x.go(350);
        Check.due("P9 the run has 400", 'l', x.goOn());
        Check.due("P9 there", 400, x.now());
        Rewinder y = Check.begun("k 0 1; j 0 1");
        Check.stepForward(y, 399);
        y.patch(1, 'k', 0, 0, 0);
        Check.due("P9 over at the limit", 'e', y.goOn());
        Check.due("P9 there", 400, y.now());
    }

    private static void goBack() {
        Rewinder none = new Rewinder();
        Check.state("P10 no run", none::goBack);
        Rewinder x = Check.loop(100);
        Check.due("P10 without a break", 's', x.goBack());
        Check.due("P10 at 0", 0, x.now());
        Check.due("P10 stays", 's', x.goBack());
        x.go(100);
        x.addBreak(3, -1, 0, 30);
        Check.due("P10 a break", 'b', x.goBack());
        Check.due("P10 there", 99, x.now());
        Check.due("P10 one more", 'b', x.goBack());
        Check.due("P10 there", 96, x.now());
        x.goBack();
        Check.due("P10 the last that holds", 93, x.now());
        Check.due("P10 all others are passed over", 's', x.goBack());
        Check.due("P10 at 0", 0, x.now());
        x.go(5);
        x.addBreak(0, -1, 0, 0);
        Check.due("P10 a break at 0", 'b', x.goBack());
        Check.due("P10 there", 0, x.now());
        Check.due("P10 none ahead of 0", 's', x.goBack());
        Check.due("P10 the end stays", 100, x.end());
    }

    private static void next() {
        Rewinder none = new Rewinder();
        Check.state("P11 no run", none::next);
        Rewinder x = Check.begun(CALLS);
        Check.due("P11 over a call", 6, x.next());
        Check.due("P11 its end", 6, x.end());
        Check.due("P11 one step", 7, x.next());
        x.go(1);
        Check.due("P11 over a call in a call", 4, x.next());
        Check.due("P11 one step", 5, x.next());
        Check.due("P11 fewer frames", 6, x.next());
        x.go(7);
        Check.due("P11 from the end", 8, x.next());
        x.go(0);
        Check.due("P11 in the run", 6, x.next());
        Check.due("P11 the end stays", 8, x.end());
        Rewinder endless = Check.begun("c 0 2; k 0 1; k 1 1; j 1 3");
        Check.due("P11 at most 60", 60, endless.next());
        endless.go(0);
        endless.forward(1);
        Check.due("P11 in the call", 2, endless.next());
        Rewinder over = Check.begun("k 0 1");
        Check.due("P11 over", 1, over.next());
        Check.due("P11 no step more", 1, over.next());
    }

    private static void nextOfTwo() {
        Rewinder x = Check.begun("k 3 1; y; j 3 1", 0);
        Check.due("P11 stays", 1, x.next());
        Check.due("P11 present again", 4, x.next());
        x.go(3);
        Check.due("P11 the process 1", 6, x.next());
        afterLooking();
        Rewinder over = Check.begun("c 0 2; o 0; c 0 40; k 1 1; j 1 4", 3);
        Check.due("P11 over with more frames is not enough", 60, over.next());
        Check.due("P11 it is", true, over.isOver(0));
        Check.due("P11 with its frames", 2, over.frames(0));
        over.go(1);
        Check.due("P11 also with one", 61, over.next());
        Rewinder few = Check.begun("r; k 1 1; j 1 2", 1);
        Check.due("P11 over with as many frames", 1, few.next());
        Check.due("P11 it is", true, few.isOver(0));
        Check.due("P11 while the other one goes on", 1, few.present());
        Rewinder fewer = Check.begun("c 0 2; r; r; k 1 1; j 1 4", 3);
        fewer.forward(1);
        Check.due("P11 fewer frames", 2, fewer.next());
        Check.due("P11 over with fewer", 3, fewer.next());
        Rewinder same = Check.begun("c 0 1; k 0 1; j 3 0; j 0 40; k 1 1; j 1 5", 4);
        same.forward(3);
        Check.due("P11 over with a frame, as now", 4, same.next());
        Check.due("P11 it is", 1, same.frames(0));
    }

    private static void afterLooking() {
        Rewinder x = Check.begun("k 3 1; k 2 1; k 1 1; k 0 1; j 3 0; k 3 2; k 3 2; j 3 5", 5);
        x.forward(2);
        x.swap();
        x.forward(4);
        x.swap();
        x.forward(9);
        x.branch();
        x.patch(0, 'k', 2, 7, 0);
        x.forward(5);
        x.select(0);
        Check.noElement("P53 not found out", () -> x.without(0));
        x.go(1);
        Check.due("P11 looking leaves out nothing for good", 6, x.next());
        Check.noElement("P53 not found out", () -> x.without(1));
        x.go(2);
        Check.due("P11 looking leaves out nothing for good", 3, x.next());
        x.go(5);
        Check.due("P11 the process 1 does not come again", 65, x.next());
        x.go(1);
        x.branch();
        x.swap();
        x.forward(20);
        x.select(0);
        x.isSound();
        x.go(0);
        Check.due("P11 one step", 1, x.next());
        Check.due("P11 with the events of this run", 6, x.next());
        x.select(2);
        x.go(0);
        Check.due("P11 with the events of that run", 60, x.next());
    }

    private static void finish() {
        Rewinder none = new Rewinder();
        Check.state("P12 no run", none::finish);
        Rewinder x = Check.begun(CALLS);
        Check.unsupported("P12 without a frame", x::finish);
        x.forward(2);
        Check.due("P12 a call in a call", 4, x.finish());
        Check.due("P12 the call", 6, x.finish());
        Check.unsupported("P12 without a frame", x::finish);
        x.go(3);
        Check.due("P12 in the run", 4, x.finish());
        x.go(1);
        Check.due("P12 over the inner call", 6, x.finish());
        Rewinder endless = Check.begun("c 0 2; k 0 1; k 1 1; j 1 3");
        endless.forward(1);
        Check.due("P12 at most 60", 61, endless.finish());
        Check.due("P12 and no further ahead of the end", 0, endless.back(400));
        endless.forward(10);
        Check.due("P12 at most 60 beyond the end", 70, endless.finish());
        Rewinder over = Check.begun("c 0 1; c 0 40; k 1 1; j 1 3", 2);
        over.forward(1);
        Check.due("P12 over", 2, over.finish());
        Rewinder other = Check.begun("c 0 2; k 0 9; y; r; k 3 1; y; k 3 1; y", 4);
        other.forward(1);
        Check.due("P12 the other one is the present one meanwhile", 5, other.finish());
        Check.due("P12 back", 1, other.place(0));
        Rewinder second = Check.begun("y; k 0 1; j 0 1; c 0 5; k 1 1; k 2 2; r", 3);
        second.forward(2);
        Check.due("P12 the process 1, though 0 has no frame", 4, second.finish());
        second.back(1);
        Check.due("P12 the process 1, in the run", 4, second.finish());
        Rewinder swapped = Check.begun("c 0 2; k 0 9; r; k 3 1; j 3 4", 3);
        swapped.forward(2);
        swapped.swap();
        swapped.forward(9);
        swapped.go(1);
        Check.due("P12 back, though the other one is the present one then", 2, swapped.finish());
        Check.due("P12 it is", 1, swapped.present());
        Rewinder ended = Check.begun("c 0 40");
        ended.forward(1);
        Check.due("P12 over with a frame", 1, ended.finish());
    }

    private static void backNext() {
        Rewinder none = new Rewinder();
        Check.state("P13 no run", none::backNext);
        Rewinder x = Check.begun(CALLS);
        Check.noElement("P13 at 0", x::backNext);
        x.forward(8);
        Check.due("P13 one step", 7, x.backNext());
        Check.due("P13 one step", 6, x.backNext());
        Check.due("P13 over a call", 0, x.backNext());
        Check.due("P13 there", 0, x.now());
        x.go(4);
        Check.due("P13 over a call in a call", 1, x.backNext());
        Check.due("P13 out of the call", 0, x.backNext());
        x.go(3);
        Check.due("P13 in a call", 2, x.backNext());
        Check.due("P13 the end stays", 8, x.end());
        Rewinder two = Check.begun("k 3 1; y; j 3 1", 0);
        two.forward(8);
        Check.due("P13 the same process", 5, two.backNext());
        two.go(6);
        Check.due("P13 the process 1", 3, two.backNext());
        two.go(2);
        Check.noElement("P13 it was not the present one", two::backNext);
        Check.due("P13 refused goes nowhere", 2, two.now());
        Rewinder rise = Check.begun("c 0 1; y; r; k 0 1; j 0 4", 3);
        rise.forward(2);
        Check.due("P13 1 came", 1, rise.present());
        Check.noElement("P13 1 was never it", rise::backNext);
    }

    private static void backFinish() {
        Rewinder none = new Rewinder();
        Check.state("P14 no run", none::backFinish);
        Rewinder x = Check.begun(CALLS);
        Check.unsupported("P14 without a frame", x::backFinish);
        x.forward(8);
        Check.unsupported("P14 without a frame", x::backFinish);
        x.go(3);
        Check.due("P14 out of the inner call", 1, x.backFinish());
        Check.due("P14 out of the call", 0, x.backFinish());
        Check.unsupported("P14 out of all", x::backFinish);
        x.go(5);
        Check.due("P14 over the inner call", 0, x.backFinish());
        Rewinder two = Check.begun("y; c 0 2; y; k 0 1; j 0 4", 1);
        two.forward(3);
        Check.due("P14 1 waits", 0, two.present());
        two.forward(3);
        Check.due("P14 0 in its call", 1, two.present());
        Check.due("P14 1 has a frame", 1, two.frames(1));
        Check.due("P14 past what the other one did meanwhile", 1, two.backFinish());
    }
}
