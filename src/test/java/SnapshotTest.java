/** Promises 41 to 44, 56 and 57: snapshots, snapshotAt, pages, again, againShare, meanDistance. */
public final class SnapshotTest {
    public static void main(String[] args) {
        noRun();
        taken();
        thinned();
        inBranches();
        pages();
        pagesOfChanges();
        again();
        lookingCountsNothing();
        shares();
        distances();
        Check.finish();
    }

    private static void noRun() {
        Rewinder x = Check.machine("k 0 1");
        Check.state("P41", x::snapshots);
        Check.state("P42", () -> x.snapshotAt(-1));
        Check.state("P43", x::pages);
        Check.state("P44", x::again);
        Check.state("P56", x::againShare);
        Check.state("P57", x::meanDistance);
    }

    private static void due(String what, Rewinder x, int... counts) {
        Check.due(what + ": number", counts.length, x.snapshots());
        for (int i = 0; i < counts.length && i < x.snapshots(); i++) {
            Check.due(what + ": " + i, counts[i], x.snapshotAt(i));
        }
        Check.index(what + ": behind the last one", () -> x.snapshotAt(counts.length));
        Check.index(what + ": -1", () -> x.snapshotAt(-1));
        Check.index(what + ": far", () -> x.snapshotAt(Integer.MAX_VALUE));
    }

    private static void taken() {
        Rewinder x = Check.begun(Check.LOOP);
        due("at 0", x, 0);
        x.forward(15);
        due("at 15", x, 0);
        x.forward(1);
        due("at 16", x, 0, 16);
        x.forward(47);
        due("at 63", x, 0, 16, 32, 48);
        x.go(0);
        due("all of the run", x, 0, 16, 32, 48);
        x.forward(40);
        due("not of steps done again", x, 0, 16, 32, 48);
    }

    private static void thinned() {
        Rewinder x = Check.loop(64);
        due("at 64", x, 0, 16, 32, 48, 64);
        x.forward(16);
        due("at 80", x, 0, 32, 48, 64, 80);
        x.forward(48);
        due("at 128", x, 0, 64, 80, 96, 112, 128);
        x.forward(16);
        due("at 144", x, 0, 64, 96, 112, 128, 144);
        Check.stepForward(x, 304 - 144);
        due("at 304", x, 0, 64, 128, 192, 256, 272, 288, 304);
        x.forward(16);
        due("at 320", x, 0, 128, 192, 256, 272, 288, 304, 320);
        Check.stepForward(x, 80);
        due("at 400", x, 0, 192, 256, 320, 352, 368, 384, 400);
        for (int moment : new int[] {400, 399, 1, 191, 192, 300, 17}) {
            x.go(moment);
            Check.due("the state at " + moment, (moment + 1) / 3, x.register(0, 1));
            Check.due("sound at " + moment, true, x.isSound());
        }
    }

    private static void inBranches() {
        Rewinder x = Check.loop(330);
        due("at 330", x, 0, 128, 192, 256, 272, 288, 304, 320);
        x.go(200);
        x.branch();
        due("up to the moment", x, 0, 128, 192);
        x.forward(24);
        due("new ones", x, 0, 128, 192, 208, 224);
        Check.stepForward(x, 170);
        due("thinned in the branch", x, 0, 192, 256, 320, 336, 352, 368, 384);
        x.select(0);
        due("not in the first one", x, 0, 128, 192, 256, 272, 288, 304, 320);
        x.go(256);
        x.branch();
        due("at a snapshot", x, 0, 128, 192, 256);
        x.go(255);
        x.branch();
        due("ahead of a snapshot", x, 0, 128, 192);
        x.forward(1);
        due("taken anew", x, 0, 128, 192, 256);
    }

    private static void pages() {
        Rewinder x = Check.begun(Check.LOOP);
        Check.due("P43 the first one", 8, x.pages());
        x.forward(15);
        Check.due("P43 nothing new", 8, x.pages());
        x.forward(1);
        Check.due("P43 cells 1 to 5", 9, x.pages());
        x.forward(16);
        Check.due("P43 cells 6 to 10", 11, x.pages());
        x.forward(32);
        Check.due("P43 cells 11 to 16, 17 to 21", 14, x.pages());
        x.forward(16);
        // Now 16 is gone: up to 32 the cells 1 to 10, and up to 80 the cells 22 to 26.
        Check.due("P43 after the thinning", 8 + 2 + 2 + 1 + 2, x.pages());
        x.go(40);
        Check.due("P43 wherever one is", 15, x.pages());
        x.branch();
        Check.due("P43 in a branch", 10, x.pages());
        Rewinder changed = Check.begun("k 1 1; j 1 0");
        changed.change(63, 1);
        changed.forward(16);
        Check.due("P43 the first event", 9, changed.pages());
        Rewinder same = Check.begun("s 0 0; k 1 1; j 1 1");
        same.forward(16);
        Check.due("P43 an 's' of the same number", 9, same.pages());
        Rewinder none = Check.begun("k 1 1; j 1 0");
        none.forward(32);
        Check.due("P43 no 's'", 8, none.pages());
        Check.due("P43 goes nowhere", 32, none.now());
    }

    private static void pagesOfChanges() {
        Rewinder x = Check.begun("k 1 1; j 1 0");
        x.change(0, 1);
        Check.due("P43 no snapshot behind it", 8, x.pages());
        x.change(63, 0);
        x.forward(15);
        x.change(1, 1);
        x.change(62, 1);
        x.forward(1);
        x.change(30, 1);
        Check.due("P43 a change at 0, and one of the same number", 10, x.pages());
        x.forward(16);
        Check.due("P43 a change at 16 is behind the snapshot", 11, x.pages());
        x.change(8, 1);
        Check.due("P43 a change at 32, too", 11, x.pages());
        x.forward(16);
        Check.due("P43 a change at 32, too", 12, x.pages());
    }

    private static void again() {
        Rewinder x = Check.begun(Check.LOOP);
        x.forward(60);
        Check.due("P44 new ones do not count", 0, x.again());
        x.back(1);
        Check.due("P44 from the last snapshot", 11, x.again());
        x.forward(1);
        Check.due("P44 from the present state", 12, x.again());
        x.go(60);
        Check.due("P44 to itself", 12, x.again());
        x.go(48);
        Check.due("P44 to a snapshot", 12, x.again());
        x.go(10);
        Check.due("P44 from 0", 22, x.again());
        x.go(15);
        Check.due("P44 no snapshot up to there", 27, x.again());
        x.go(16);
        Check.due("P44 a snapshot there", 27, x.again());
        x.go(31);
        Check.due("P44 from the present state", 42, x.again());
        x.go(50);
        Check.due("P44 a snapshot between", 44, x.again());
        x.go(20);
        Check.due("P44 back", 48, x.again());
        x.forward(60);
        Check.due("P44 to the end, then new ones", 48 + 12, x.again());
        x.go(0);
        Check.due("P44 to 0", 60, x.again());
        x.goOn();
        // 80 is the end: 32, 48, 64 and 80 are the snapshots left.
        Check.due("P44 goOn", 60 + 12, x.again());
        x.goBack();
        Check.due("P44 goBack", 72, x.again());
        x.select(0);
        Check.due("P44 select of the present one", 72, x.again());
        x.back(3);
        Check.due("P44 back", 72 + 13, x.again());
        x.select(0);
        Check.due("P44 select goes from the last snapshot", 85, x.again());
        x.forward(7);
        x.select(0);
        Check.due("P44 also where one is there", 92, x.again());
        x.branch();
        Check.due("P44 branch", 92, x.again());
        x.begin();
        Check.due("P44 begin", 0, x.again());
    }

    private static void lookingCountsNothing() {
        Rewinder x = Check.loop(100);
        x.addBreak(2, -1, 0, 0);
        x.feed(1);
        x.met(0);
        x.firstAbove(3, 2);
        x.slice(3);
        x.hangsOn(3, 3);
        x.isSound();
        x.tick(1);
        Check.noElement("P54 not found out", () -> x.with(0, 2));
        Check.noElement("P53 not found out", () -> x.without(0));
        Check.noElement("P47 not different", () -> x.difference(0));
        x.lastWrite(3);
        x.writerOf(3);
        x.callerOf(3);
        x.writes(3);
        x.sum();
        Check.due("P44 looking", 0, x.again());
    }

    private static void shares() {
        Rewinder x = Check.begun(Check.LOOP);
        Check.arithmetic("P56 no steps", x::againShare);
        x.tick(1);
        Check.arithmetic("P56 an event is no step", x::againShare);
        x.forward(10);
        Check.due("P56 none again", 0.0f, x.againShare());
        x.back(7);
        Check.due("P56 three", 3.0f / 13.0f, x.againShare());
        x.branch();
        x.forward(4);
        Check.due("P56 new ones of all runs", 3.0f / 17.0f, x.againShare());
        x.begin();
        Check.arithmetic("P56 from the beginning on", x::againShare);
        Rewinder over = new Rewinder();
        over.begin();
        over.forward(1);
        Check.arithmetic("P56 no steps", over::againShare);
    }

    private static void distances() {
        Rewinder x = Check.begun(Check.LOOP);
        Check.arithmetic("P57 just one", x::meanDistance);
        x.forward(15);
        Check.arithmetic("P57 just one", x::meanDistance);
        x.forward(1);
        Check.due("P57 two", 16.0, x.meanDistance());
        Check.stepForward(x, 64);
        Check.due("P57 thinned", 80.0 / 4.0, x.meanDistance());
        Check.stepForward(x, 320);
        Check.due("P57 at the limit", 400.0 / 7.0, x.meanDistance());
        x.go(5);
        Check.due("P57 of the whole run", 400.0 / 7.0, x.meanDistance());
        x.branch();
        Check.arithmetic("P57 the one at 0", x::meanDistance);
    }
}
