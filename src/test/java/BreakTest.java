/** Promises 20 to 22: addBreak, removeBreak, met. */
public final class BreakTest {
    public static void main(String[] args) {
        addBreak();
        removeBreak();
        met();
        metOfTwo();
        Check.finish();
    }

    private static void addBreak() {
        Rewinder none = new Rewinder();
        Check.state("P20 no run", () -> none.addBreak(-1, 0, 0, 0));
        Rewinder x = Check.begun(Check.LOOP);
        Check.argument("P20 place -1", () -> x.addBreak(-1, 0, 0, 0));
        Check.argument("P20 place 40", () -> x.addBreak(40, 0, 0, 0));
        Check.argument("P20 register -2", () -> x.addBreak(0, -2, 0, 0));
        Check.argument("P20 register 4", () -> x.addBreak(0, 4, 0, 0));
        Check.argument("P20 passes -1", () -> x.addBreak(0, 0, 0, -1));
        Check.argument("P20 passes 100", () -> x.addBreak(0, 0, 0, 100));
        Check.due("P20 first", 0, x.addBreak(0, -1, Integer.MIN_VALUE, 0));
        Check.due("P20 far", 1, x.addBreak(39, 3, Integer.MAX_VALUE, 99));
        x.removeBreak(0);
        Check.due("P20 no number again", 2, x.addBreak(0, 0, 0, 0));
        for (int i = 3; i < 8; i++) {
            Check.due("P20 number", i, x.addBreak(0, 0, 0, 0));
        }
        Check.unsupported("P20 8 were added", () -> x.addBreak(0, 0, 0, 0));
        Check.argument("P20 the number comes first", () -> x.addBreak(0, 0, 0, 100));
        x.removeBreak(5);
        Check.unsupported("P20 8 were added, removed or not", () -> x.addBreak(0, 0, 0, 0));
        x.branch();
        Check.unsupported("P20 also in a branch", () -> x.addBreak(0, 0, 0, 0));
        x.begin();
        for (int i = 0; i < 8; i++) {
            int gone = i;
            Check.noElement("P4 all breaks are gone: " + i, () -> x.met(gone));
            Check.noElement("P4 all breaks are gone: " + i, () -> x.removeBreak(gone));
        }
        Check.due("P20 from 0 on", 0, x.addBreak(0, 0, 0, 0));
    }

    private static void removeBreak() {
        Rewinder none = new Rewinder();
        Check.state("P21 no run", () -> none.removeBreak(-1));
        Rewinder x = Check.begun(Check.LOOP);
        Check.noElement("P21 none", () -> x.removeBreak(0));
        x.addBreak(1, -1, 0, 0);
        x.addBreak(2, -1, 0, 0);
        x.addBreak(3, -1, 0, 0);
        Check.noElement("P21 not added", () -> x.removeBreak(3));
        Check.noElement("P21 -1", () -> x.removeBreak(-1));
        Check.noElement("P21 8", () -> x.removeBreak(8));
        Check.due("P21 two are left", 2, x.removeBreak(1));
        Check.noElement("P21 gone", () -> x.removeBreak(1));
        x.goOn();
        x.goOn();
        Check.due("P21 holds no more", 3, x.now());
        Check.due("P21 one is left", 1, x.removeBreak(0));
        Check.due("P21 none is left", 0, x.removeBreak(2));
        Check.due("P21 nothing holds", 'l', x.goOn());
    }

    private static void met() {
        Rewinder none = new Rewinder();
        Check.state("P22 no run", () -> none.met(-1));
        Rewinder x = Check.loop(100);
        Check.noElement("P22 none", () -> x.met(0));
        x.addBreak(0, -1, 0, 99);
        x.addBreak(1, -1, 0, 0);
        x.addBreak(1, 1, 10, 0);
        x.addBreak(2, 3, 0, 0);
        x.addBreak(2, 2, 0, 0);
        x.addBreak(39, -1, 0, 0);
        Check.due("P22 the moment 0", 1, x.met(0));
        Check.due("P22 this one included", 34, x.met(1));
        Check.due("P22 with a register", 1, x.met(2));
        Check.due("P22 with 0 in it", 33, x.met(3));
        x.addBreak(2, 0, 1, 0);
        Check.due("P22 with the register 0", 0, x.met(6));
        x.removeBreak(6);
        Check.due("P22 never", 0, x.met(4));
        Check.due("P22 no such place", 0, x.met(5));
        Check.due("P22 the same once more", 34, x.met(1));
        x.go(3);
        Check.due("P22 up to the present moment", 1, x.met(1));
        x.go(4);
        Check.due("P22 this one included", 2, x.met(1));
        Check.noElement("P22 -1", () -> x.met(-1));
        Check.noElement("P22 6", () -> x.met(6));
        x.removeBreak(1);
        Check.noElement("P22 gone", () -> x.met(1));
        Check.due("P22 the others stay", 1, x.met(3));
    }

    private static void metOfTwo() {
        Rewinder x = Check.begun("k 0 1; k 0 2; k 0 3", 0);
        x.addBreak(0, -1, 0, 0);
        x.addBreak(1, -1, 0, 0);
        x.addBreak(3, -1, 0, 0);
        x.forward(1);
        Check.due("P22 at 1", 1, x.met(1));
        x.swap();
        Check.due("P22 a moment is behind its events", 0, x.met(1));
        Check.due("P22 the other one is at 0", 2, x.met(0));
        x.forward(1);
        Check.due("P22 now at 1", 1, x.met(1));
        x.forward(60);
        Check.due("P22 at 1 twice", 2, x.met(1));
        Check.due("P22 not when over", 0, x.met(2));
        x.go(0);
        Check.due("P9 only behind the events", 'b', x.goOn());
        Check.due("P9 at 1 it holds with the other one", 1, x.now());
    }
}
