/** The edges that the promises 1 to 14 name in their own sentences. */
public final class MoveEdgeTest {
    private static final String CALLS = "c 0 3; k 0 1; j 0 0; c 0 6; k 1 2; r; k 2 3; r";
    private static final String THEN = "Returns the moment then.";

    public static void main(String[] args) {
        newObject();
        add();
        setSecond();
        begin();
        beginFromAnywhere();
        instructions();
        forward();
        back();
        go();
        goOn();
        goOnAtSixty();
        goOnAtTheLimit();
        goBack();
        next();
        nextOfTwo();
        nextAtSixty();
        finish();
        finishAtSixty();
        backNext();
        backNextOfTwo();
        backFinish();
        Document.areTold(1, 14);
        Check.finish();
    }

    /** Runs for so many steps, an even number from 4 on, and is over then. */
    private static String lasting(int steps) {
        return "k 0 " + (steps - 2) / 2 + "; k 1 -1; + 0 0 1; j 0 2";
    }

    /** Calls what lasts for so many steps with the 'c' and the 'r', an even number from 6 on; then puts out. */
    private static String calling(int steps) {
        return "c 0 2; o 0; k 0 " + (steps - 4) / 2 + "; k 1 -1; + 0 0 1; j 0 4; r";
    }

    private static void newObject() {
        Document.about(1, "Creates a machine without code and a run.");
        Rewinder x = new Rewinder();
        Check.due("no code", 0, x.instructions());
        Check.state("no run", x::now);
        Check.state("no run", () -> x.go(0));
        Check.due("no beginning", -1, x.setSecond(-1));
        Check.due("the first place is free", 0, x.add('r', 0, 0, 0));
    }

    private static void add() {
        Document.about(2, "Adds an instruction, for runs that are begun from now on.", "Returns its place.");
        Rewinder x = Check.begun("k 0 1; j 0 2");
        Check.due("its place", 2, x.add('k', 0, 7, 0));
        x.forward(2);
        Check.due("not for the run that was begun", true, x.isOver(0));
        Check.index("not for the run that was begun", () -> x.patch(2, 'r', 0, 0, 0));
        x.branch();
        Check.index("nor for its branches", () -> x.patch(2, 'r', 0, 0, 0));
        Check.due("for runs from now on", 3, x.begin());
        x.forward(3);
        Check.due("it is done", 7, x.register(0, 0));
    }

    private static void setSecond() {
        Document.about(3, "Sets where the process 1 begins in runs that are begun from now on.",
            "Returns the place before, -1 at first.");
        Rewinder x = Check.begun("k 0 1; k 0 2");
        Check.due("-1 at first", -1, x.setSecond(1));
        Check.due("not in the run that was begun", true, x.isOver(1));
        x.branch();
        x.select(0);
        Check.due("nor in its branches", true, x.isOver(1));
        x.begin();
        Check.due("in runs from now on", false, x.isOver(1));
        Check.due("the place before", 1, x.setSecond(0));
        Check.due("not in the run that was begun", 1, x.place(1));
        x.begin();
        x.begin();
        Check.due("in all runs from now on", 0, x.place(1));
        Check.due("the place before", 0, x.setSecond(-1));
        x.begin();
        Check.due("none again", true, x.isOver(1));
    }

    private static void begin() {
        Document.about(4, "Begins a run, number 0, with the instructions of this moment; all others are gone,"
            + " and all breaks, and counts are 0.", "Returns the number of instructions.");
        Rewinder empty = new Rewinder();
        Check.due("without instructions", 0, empty.begin());
        Check.due("a run all the same", 0, empty.now());
        Rewinder x = Check.begun("k 0 1; c 0 2; k 1 1; j 1 2");
        x.forward(20);
        x.addBreak(1, -1, 0, 0);
        x.back(9);
        x.branch();
        x.patch(0, 'k', 0, 5, 0);
        x.feed(1);
        Check.due("the number of instructions", 4, x.begin());
        Check.due("the moment 0", 0, x.now());
        Check.due("its end", 0, x.end());
        Check.due("number 0", 0, x.select(0));
        Check.index("all others are gone", () -> x.select(1));
        Check.noElement("all breaks are gone", () -> x.met(0));
        Check.due("counts are 0", 0, x.again());
        Check.arithmetic("counts are 0", x::againShare);
        Check.due("no events", 0, x.events());
        Check.due("no frames", 0, x.frames(0));
        Check.due("one snapshot", 1, x.snapshots());
        x.forward(1);
        Check.due("without the patch", 1, x.register(0, 0));
        Check.due("a new step alone", 0.0f, x.againShare());
    }

    private static void beginFromAnywhere() {
        Rewinder x = Check.machine("c 0 3; y; r; i 0; s 0 0; + 1 1 0; s 1 1; o 1; j 0 3; c 0 3");
        x.setSecond(9);
        x.begin();
        long first = x.sum();
        x.feed(3);
        x.feed(4);
        x.change(0, 5);
        x.tick(6);
        x.forward(40);
        x.swap();
        x.forward(40);
        x.branch();
        x.forward(1);
        x.select(0);
        x.feed(7);
        Check.due("a number is left", 1, x.console());
        Check.due("the process 1 in a call", 1, x.frames(1));
        x.begin();
        Check.due("all of the state is as at first", first, x.sum());
        Check.due("no events of the run before", 0, x.events());
        Check.due("no pages of the run before", 8, x.pages());
        Check.due("no slices of the run before", 0, x.slice(0));
        Check.due("no writes of the run before", 0, x.writes(3));
        Check.due("the process 0", 0, x.present());
        x.feed(8);
        Check.due("an event as at first", 1, x.console());
        x.tick(9);
        Check.due("an event as at first", 9, x.clock());
        x.forward(2);
        Check.due("the first number of this run", 8, x.register(0, 0));
        x.branch();
        Check.due("a branch without the events of the one before", 2, x.events());
        Check.due("a branch without the snapshots of the one before", 1, x.snapshots());
        Check.due("a branch without the pages of the one before", 8, x.pages());
    }

    private static void instructions() {
        Document.about(5, "Returns the number of instructions that were added.",
            "Returns the number of instructions.");
        Rewinder x = new Rewinder();
        Check.due("none", 0, x.instructions());
        x.add('r', 0, 0, 0);
        Check.due("one", 1, x.instructions());
        Check.argument("a refused one", () -> x.add('k', 4, 0, 0));
        Check.due("does not count", 1, x.instructions());
        x.begin();
        x.patch(0, 'y', 0, 0, 0);
        Check.due("a patch adds none", 1, x.instructions());
        for (int i = 1; i < 40; i++) {
            x.add('r', 0, 0, 0);
        }
        Check.due("forty", 40, x.instructions());
        Check.state("one more", () -> x.add('r', 0, 0, 0));
        Check.due("is not added", 40, x.instructions());
    }

    private static void forward() {
        Document.about(6, "Goes forward by steps, as far as there are some, the run has 400,"
            + " or both processes are over.", THEN);
        Rewinder over = Check.begun(lasting(60));
        Check.due("up to the last step", 60, over.forward(60));
        Check.due("both are over", true, over.isOver(0));
        Rewinder few = Check.begun(lasting(58));
        Check.due("as far as there are some", 58, few.forward(60));
        Check.due("no more", 58, few.forward(1));
        Rewinder more = Check.begun(lasting(62));
        Check.due("sixty of 62", 60, more.forward(60));
        Check.due("not over", false, more.isOver(0));
        Rewinder two = Check.begun("k 0 1; k 0 2; r", 1);
        Check.due("both must be over", 5, two.forward(60));
        Rewinder limit = Check.loop(340);
        Check.due("up to 400", 400, limit.forward(60));
        limit.go(341);
        Check.due("400 and no more", 400, limit.forward(60));
        Rewinder both = Check.begun("k 0 1; j 0 1");
        Check.stepForward(both, 399);
        both.patch(1, 'r', 0, 0, 0);
        Check.due("over with the 400th", 400, both.forward(1));
        Check.due("it is", true, both.isOver(0));
        Check.due("no more", 400, both.forward(1));
    }

    private static void back() {
        Document.about(7, "Goes back by steps, up to the moment 0.", THEN);
        Rewinder x = Check.loop(400);
        Check.due("by 399", 1, x.back(399));
        Check.due("by 1, to 0", 0, x.back(1));
        Check.due("no more", 0, x.back(1));
        x.go(400);
        Check.due("by 400, to 0", 0, x.back(400));
        x.go(399);
        Check.due("by 400, up to 0", 0, x.back(400));
        Check.due("the end stays", 400, x.end());
        Rewinder begun = Check.begun("k 0 1");
        Check.due("in a run without a step", 0, begun.back(400));
        begun.tick(3);
        begun.forward(1);
        begun.back(1);
        Check.due("behind the events of 0", 3, begun.clock());
    }

    private static void go() {
        Document.about(8, "Goes to a moment of the present run.", "Returns the moment before.");
        Rewinder x = Check.loop(400);
        Check.due("before", 400, x.go(0));
        Check.due("before", 0, x.go(400));
        Check.due("to where one is", 400, x.go(400));
        Check.index("behind the end", () -> x.go(401));
        x.go(7);
        x.branch();
        Check.index("the present run has less", () -> x.go(8));
        Check.due("its end", 7, x.go(7));
        Check.due("0", 7, x.go(0));
        x.select(0);
        Check.due("the other one has it", 400, x.go(8));
        Rewinder begun = Check.begun("k 0 1");
        Check.due("the one moment", 0, begun.go(0));
        Check.index("no other one", () -> begun.go(1));
    }

    private static void goOn() {
        Document.about(9, "Goes forward by one step or more, up to a moment at which a break holds, at most 60.",
            "Returns 'b' a break holds, 'e' both processes are over, 'l' otherwise, or the run has 400 steps.");
        Rewinder x = Check.begun("k 0 1; j 0 1");
        x.addBreak(1, -1, 0, 0);
        Check.due("a break one step on", 'b', x.goOn());
        Check.due("one step", 1, x.now());
        Check.due("it holds where one is: one step or more", 'b', x.goOn());
        Check.due("one step", 2, x.now());
        x.go(0);
        Check.due("in the run", 'b', x.goOn());
        Check.due("one step", 1, x.now());
        Rewinder over = Check.begun("k 0 1; k 0 2");
        over.addBreak(0, -1, 0, 0);
        Check.due("the moment 0 is not asked", 'e', over.goOn());
        Check.due("both are over", 2, over.now());
        over.addBreak(1, -1, 0, 0);
        over.go(0);
        Check.due("the break comes ahead of the end", 'b', over.goOn());
        Check.due("there", 1, over.now());
        Check.due("then the end", 'e', over.goOn());
        Check.due("no step more", 'e', over.goOn());
        Rewinder one = Check.begun("r; k 0 1; j 0 2", 1);
        Check.due("one that is over is not both", 'l', one.goOn());
    }

    private static void goOnAtSixty() {
        int[][] rows = {{58, 59}, {59, 60}, {60, 60}};
        for (int[] row : rows) {
            char due = row[0] < 60 ? 'b' : 'l';
            Rewinder x = Check.begun("k 0 1; j 0 1");
            x.addBreak(1, -1, 0, row[0]);
            Check.due("new steps, passed over " + row[0], due, x.goOn());
            Check.due("at most 60", row[1], x.now());
            Check.stepForward(x, 90);
            x.go(0);
            Check.due("in the run, passed over " + row[0], due, x.goOn());
            Check.due("at most 60", row[1], x.now());
            Rewinder half = Check.begun("k 0 1; j 0 1");
            half.addBreak(1, -1, 0, row[0]);
            half.forward(30);
            half.go(0);
            Check.due("over the end, passed over " + row[0], due, half.goOn());
            Check.due("at most 60", row[1], half.now());
        }
        Rewinder over = Check.begun(lasting(60));
        Check.due("over with the 60th step", 'e', over.goOn());
        Rewinder later = Check.begun(lasting(60) + "; k 2 1");
        Check.due("over with the 61st step", 'l', later.goOn());
        Check.due("at most 60", 60, later.now());
        Check.due("then over", 'e', later.goOn());
        Check.due("one step more", 61, later.now());
    }

    private static void goOnAtTheLimit() {
        Rewinder x = Check.begun("k 0 1; j 0 1");
        Check.stepForward(x, 399);
        Check.due("the run has 400 then", 'l', x.goOn());
        Check.due("there", 400, x.now());
        Check.due("the run has 400", 'l', x.goOn());
        x.addBreak(1, -1, 0, 0);
        x.go(399);
        Check.due("a break at the 400th", 'b', x.goOn());
        Check.due("there", 400, x.now());
        Check.due("no step more", 'l', x.goOn());
        Rewinder over = Check.begun("k 0 1; j 0 1");
        Check.stepForward(over, 399);
        over.patch(1, 'r', 0, 0, 0);
        Check.due("over with the 400th", 'e', over.goOn());
        Check.due("still", 'e', over.goOn());
    }

    private static void goBack() {
        Document.about(10, "Goes back to the last moment ahead of the present one at which a break holds,"
            + " or the moment 0.", "Returns 'b' there is such a moment ahead, 's' otherwise.");
        Rewinder x = Check.begun("k 0 1; j 0 1");
        x.forward(3);
        Check.due("without a break", 's', x.goBack());
        Check.due("the moment 0", 0, x.now());
        x.go(3);
        x.addBreak(1, -1, 0, 1);
        Check.due("the present one does not count", 'b', x.goBack());
        Check.due("there", 2, x.now());
        Check.due("the one ahead was passed over", 's', x.goBack());
        Check.due("the moment 0", 0, x.now());
        Check.due("no moment ahead of 0", 's', x.goBack());
        x.addBreak(0, -1, 0, 0);
        Check.due("it holds at 0, but 0 is not ahead of 0", 's', x.goBack());
        x.go(1);
        Check.due("it is ahead of 1", 'b', x.goBack());
        Check.due("the moment 0", 0, x.now());
        Check.due("the end stays", 3, x.end());
    }

    private static void next() {
        Document.about(11, "Goes forward by one step or more, up to a moment at which the process that is the present"
            + " one now has as many frames as now at most, and is the present one, or over; at most 60 steps.", THEN);
        Rewinder x = Check.begun(CALLS);
        Check.due("over what has more frames", 6, x.next());
        Check.due("as many as now", 0, x.frames(0));
        Check.due("one step where there is no call", 7, x.next());
        x.go(1);
        Check.due("as many as now", 4, x.next());
        Check.due("with one", 1, x.frames(0));
        x.go(5);
        Check.due("fewer than now", 6, x.next());
        Check.due("none", 0, x.frames(0));
        Check.due("the end stays", 7, x.end());
        Rewinder over = Check.begun("k 0 1; r");
        Check.due("one step", 1, over.next());
        Check.due("over", 2, over.next());
        Check.due("no step more", 2, over.next());
        Rewinder none = new Rewinder();
        none.begin();
        Check.due("without code", 0, none.next());
    }

    private static void nextOfTwo() {
        Rewinder x = Check.begun("y; k 0 1; r; k 1 1; y; j 1 4", 3);
        Check.due("present again", 3, x.next());
        Check.due("it is", 0, x.present());
        x.go(1);
        Check.due("the process 1, one step", 2, x.next());
        Check.due("the process 1, present again", 5, x.next());
        Check.due("because the process 0 is over", true, x.isOver(0));
        x.go(3);
        Check.due("one step", 4, x.next());
        Check.due("over, with as many frames", 5, x.next());
        Check.due("though the other one is present", 1, x.present());
        Rewinder gone = Check.begun("y; r; k 1 1; j 1 3", 2);
        Check.due("the other one stays: at most 60", 60, gone.next());
        Check.due("it does", 1, gone.present());
        Rewinder framed = Check.begun("c 0 40; k 1 1; j 1 2", 1);
        Check.due("over with more frames is not enough", 60, framed.next());
        Check.due("it is over", true, framed.isOver(0));
        Rewinder same = Check.begun("c 0 1; k 0 1; j 0 40; k 1 1; j 1 4", 3);
        same.forward(2);
        Check.due("over with as many frames as now is", 3, same.next());
        Check.due("it is over", true, same.isOver(0));
        Check.due("as many", 1, same.frames(0));
    }

    private static void nextAtSixty() {
        Rewinder x = Check.begun(calling(60));
        Check.due("back with the 60th step", 60, x.next());
        Check.due("it is back", 1, x.place(0));
        x.forward(1);
        x.go(0);
        Check.due("in the run", 60, x.next());
        Check.due("the end stays", 61, x.end());
        Rewinder far = Check.begun("k 2 1; " + calling(60).replace("c 0 2", "c 0 3").replace("j 0 4", "j 0 5"));
        Check.due("one step ahead of it", 1, far.next());
        Check.due("60 from there", 61, far.next());
        Check.due("it is back", 2, far.place(0));
        Rewinder more = Check.begun(calling(62));
        Check.due("at most 60", 60, more.next());
        Check.due("not back", 1, more.frames(0));
        more.forward(2);
        Check.due("back with the 62nd", 0, more.frames(0));
        more.go(0);
        Check.due("at most 60 in the run", 60, more.next());
        Check.due("the end stays", 62, more.end());
        more.go(1);
        Check.due("from the moment 1", 2, more.next());
    }

    private static void finish() {
        Document.about(12, "Goes forward by one step or more, up to a moment at which the process that is the present"
            + " one now is over, or has fewer frames than now; at most 60 steps.", THEN);
        Rewinder x = Check.begun(CALLS);
        Check.unsupported("it has no frame", x::finish);
        x.forward(1);
        Check.due("past more frames", 6, x.finish());
        Check.due("none", 0, x.frames(0));
        x.go(2);
        Check.due("one fewer", 4, x.finish());
        Check.due("one", 1, x.frames(0));
        x.go(5);
        Check.due("one step", 6, x.finish());
        Check.unsupported("it has no frame", x::finish);
        Rewinder over = Check.begun("c 0 1; c 0 40; k 1 1; j 1 3", 2);
        over.forward(1);
        Check.due("over with more frames", 2, over.finish());
        Check.due("more", 2, over.frames(0));
        Check.due("though the other one is present", 1, over.present());
        Check.unsupported("which has no frame", over::finish);
        Rewinder both = Check.begun("c 0 40");
        both.forward(1);
        Check.due("over: no step more", 1, both.finish());
        Rewinder swapped = Check.begun("c 0 2; k 0 9; r; k 3 1; j 3 4", 3);
        swapped.forward(2);
        swapped.swap();
        swapped.forward(9);
        swapped.go(1);
        Check.due("fewer frames, though the other one is present then", 2, swapped.finish());
        Check.due("it is", 1, swapped.present());
    }

    private static void finishAtSixty() {
        Rewinder x = Check.begun(calling(60) + "; r");
        x.forward(1);
        Check.due("59 steps", 60, x.finish());
        Rewinder sixty = Check.begun("c 0 2; o 0; k 2 5; k 0 28; k 1 -1; + 0 0 1; j 0 5; r");
        sixty.forward(1);
        Check.due("60 steps", 61, sixty.finish());
        Check.due("it is back", 1, sixty.place(0));
        sixty.go(1);
        Check.due("60 steps in the run", 61, sixty.finish());
        Rewinder more = Check.begun(calling(62));
        more.forward(1);
        Check.due("at most 60 of 61", 61, more.finish());
        Check.due("not back", 1, more.frames(0));
        Check.due("one step more", 62, more.finish());
        more.go(1);
        Check.due("at most 60 of 61 in the run", 61, more.finish());
        Check.due("the end stays", 62, more.end());
    }

    private static void backNext() {
        Document.about(13, "Goes back to the last moment ahead of the present one at which the process that is the"
            + " present one now is the present one, too, and had as many frames as now at most.", THEN);
        Rewinder x = Check.begun(CALLS);
        Check.noElement("at 0", x::backNext);
        x.forward(1);
        Check.due("at 1, fewer frames", 0, x.backNext());
        x.forward(5);
        Check.due("as many frames", 4, x.backNext());
        Check.due("past more frames", 1, x.backNext());
        x.go(4);
        x.forward(2);
        Check.due("past more frames", 0, x.backNext());
        Check.noElement("none ahead of it", x::backNext);
        Check.due("refused goes nowhere", 0, x.now());
        Rewinder over = Check.begun("k 0 1; r");
        over.forward(2);
        Check.due("from where it is over", 1, over.backNext());
    }

    private static void backNextOfTwo() {
        Rewinder x = Check.begun("y; k 0 1; j 3 0; k 1 1; y; j 1 4", 3);
        x.forward(3);
        Check.due("the present one, too", 0, x.backNext());
        x.go(2);
        Check.due("the process 1", 1, x.backNext());
        Check.noElement("it was not it ahead of that", x::backNext);
        Rewinder swapped = Check.begun("k 0 1; k 0 2", 0);
        swapped.swap();
        Check.noElement("at 0", swapped::backNext);
        swapped.forward(1);
        swapped.swap();
        Check.noElement("a moment is behind its events: 0 was never it", swapped::backNext);
        swapped.swap();
        Check.due("and 1 was", 0, swapped.backNext());
    }

    private static void backFinish() {
        Document.about(14, "Goes back to the last moment ahead of the present one at which the process that is the"
            + " present one now had fewer frames than now.", THEN);
        Rewinder x = Check.begun(CALLS);
        Check.unsupported("it has no frame", x::backFinish);
        x.forward(6);
        Check.unsupported("it has no frame", x::backFinish);
        x.go(1);
        Check.due("one step", 0, x.backFinish());
        x.forward(2);
        Check.due("one fewer", 1, x.backFinish());
        x.go(3);
        Check.due("past as many", 1, x.backFinish());
        x.go(5);
        Check.due("past as many and more", 0, x.backFinish());
        Rewinder two = Check.begun("y; c 0 2; y; k 0 1; j 0 4", 1);
        two.forward(6);
        Check.due("the process 1", 1, two.present());
        Check.due("past what the process 0 did meanwhile", 1, two.backFinish());
        Rewinder six = Check.begun("c 0 0");
        six.forward(7);
        for (int moment = 5; moment >= 0; moment--) {
            Check.due("six frames, one by one", moment, six.backFinish());
        }
        Check.unsupported("none is left", six::backFinish);
    }
}
