/** Promises 1 to 5: a new object, add, setSecond, begin, instructions. */
public final class CodeTest {
    public static void main(String[] args) {
        newObject();
        addAnswers();
        addRefuses();
        addIsFull();
        setSecond();
        begin();
        beginFromAnywhere();
        letters();
        ends();
        Check.finish();
    }

    private static void newObject() {
        Rewinder x = new Rewinder();
        Check.due("P1 no code", 0, x.instructions());
        Check.state("P1 no run", x::now);
        Check.due("P1 no second", -1, x.setSecond(-1));
        Check.due("P1 begins without code", 0, x.begin());
        Check.due("P1 over", true, x.isOver(0));
        Check.due("P1 over", true, x.isOver(1));
        Check.due("P1 nothing to do", 0, x.forward(60));
    }

    private static void addAnswers() {
        Rewinder x = new Rewinder();
        String letters = "k+-*<lsjcrioty";
        for (int i = 0; i < letters.length(); i++) {
            Check.due("P2 place " + i, i, x.add(letters.charAt(i), 3, 3, 3));
            Check.due("P5 instructions", i + 1, x.instructions());
        }
        Check.due("P2 k lowest", 14, x.add('k', 0, -999, 77));
        Check.due("P2 k greatest", 15, x.add('k', 0, 999, -77));
        Check.due("P2 j", 16, x.add('j', 0, 40, 99));
        Check.due("P2 c, a is free", 17, x.add('c', -5, 0, 99));
        Check.due("P2 r, all free", 18, x.add('r', -5, 99, Integer.MIN_VALUE));
        Check.due("P2 y, all free", 19, x.add('y', 1000, 99, Integer.MAX_VALUE));
        Check.due("P2 i, b and c free", 20, x.add('i', 0, 99, -1));
        Check.due("P2 o, b and c free", 21, x.add('o', 3, -99, 4));
        Check.due("P2 t, b and c free", 22, x.add('t', 1, 4, 4));
        Check.due("P2 l, c free", 23, x.add('l', 1, 0, 4));
        Check.due("P2 s, c free", 24, x.add('s', 1, 0, -4));
        Check.due("P2 c to 40", 25, x.add('c', 0, 40, 0));
    }

    private static void addRefuses() {
        Rewinder x = new Rewinder();
        for (char letter : new char[] {'z', 'K', ' ', 0, (char) 363, (char) 65535, 'f', 'm'}) {
            Check.argument("P2 letter " + (int) letter, () -> x.add(letter, 0, 0, 0));
        }
        for (char letter : "k+-*<lsjiot".toCharArray()) {
            Check.argument("P2 a of " + letter, () -> x.add(letter, 4, 0, 0));
            Check.argument("P2 a of " + letter, () -> x.add(letter, -1, 0, 0));
        }
        for (char letter : "+-*<ls".toCharArray()) {
            Check.argument("P2 b of " + letter, () -> x.add(letter, 0, 4, 0));
            Check.argument("P2 b of " + letter, () -> x.add(letter, 0, -1, 0));
        }
        for (char letter : "+-*<".toCharArray()) {
            Check.argument("P2 c of " + letter, () -> x.add(letter, 0, 0, 4));
            Check.argument("P2 c of " + letter, () -> x.add(letter, 0, 0, -1));
        }
        for (char letter : "jc".toCharArray()) {
            Check.argument("P2 b of " + letter, () -> x.add(letter, 0, 41, 0));
            Check.argument("P2 b of " + letter, () -> x.add(letter, 0, -1, 0));
        }
        Check.argument("P2 k too great", () -> x.add('k', 0, 1000, 0));
        Check.argument("P2 k too small", () -> x.add('k', 0, -1000, 0));
        Check.due("P2 refused ones are not added", 0, x.instructions());
    }

    private static void addIsFull() {
        Rewinder x = new Rewinder();
        for (int i = 0; i < 40; i++) {
            Check.due("P2 place", i, x.add('o', 0, 0, 0));
        }
        Check.state("P2 full", () -> x.add('o', 0, 0, 0));
        Check.argument("P2 full, but the letter comes first", () -> x.add('z', 0, 0, 0));
        Check.argument("P2 full, but the number comes first", () -> x.add('o', 4, 0, 0));
        Check.due("P5 full", 40, x.instructions());
        Check.due("P4 full", 40, x.begin());
        Check.due("P6 40 steps", 40, x.forward(60));
        Check.due("P27 the place behind the code", 40, x.place(0));
        Check.due("P26 over there", true, x.isOver(0));
    }

    private static void setSecond() {
        Rewinder x = Check.machine("k 0 1; k 0 2");
        Check.due("P3 at first", -1, x.setSecond(40));
        Check.due("P3 before", 40, x.setSecond(0));
        Check.due("P3 before", 0, x.setSecond(1));
        Check.argument("P3 too great", () -> x.setSecond(41));
        Check.argument("P3 too small", () -> x.setSecond(-2));
        Check.due("P3 refused changes nothing", 1, x.setSecond(1));
        x.begin();
        Check.due("P3 the process 1 is not over", false, x.isOver(1));
        Check.due("P3 its place", 1, x.place(1));
        Check.due("P3 the present one is 0", 0, x.present());
        Check.due("P3 for later runs", 1, x.setSecond(-1));
        Check.due("P3 not for this one", false, x.isOver(1));
        x.forward(2);
        Check.due("P3 the process 1 goes on", 1, x.present());
        x.forward(1);
        Check.due("P3 and does its step", 2, x.register(1, 0));
        x.begin();
        Check.due("P3 for this one", true, x.isOver(1));
        x.setSecond(2);
        x.begin();
        Check.due("P3 over without an instruction there", true, x.isOver(1));
        Check.due("P27 its place", 2, x.place(1));
    }

    private static void begin() {
        Rewinder x = Check.machine("k 0 7; o 0");
        Check.due("P4 instructions", 2, x.begin());
        x.add('k', 1, 9, 0);
        Check.due("P4 only those of then", 2, x.forward(9));
        Check.due("P4 over", true, x.isOver(0));
        x.tick(5);
        x.feed(1);
        x.change(1, 8);
        x.addBreak(0, -1, 0, 0);
        x.back(1);
        x.branch();
        Check.due("P4 with the new one", 3, x.begin());
        Check.due("P4 moment", 0, x.now());
        Check.due("P4 end", 0, x.end());
        Check.due("P4 no again", 0, x.again());
        Check.arithmetic("P4 no steps", x::againShare);
        Check.due("P4 no events", 0, x.events());
        Check.due("P4 clock", 0, x.clock());
        Check.due("P4 console", 0, x.console());
        Check.due("P4 cell", 0, x.cell(1));
        Check.due("P4 no outputs", 0, x.outputs());
        Check.noElement("P4 no breaks", () -> x.met(0));
        Check.due("P4 breaks are numbered anew", 0, x.addBreak(0, -1, 0, 0));
        Check.index("P4 the branch is gone", () -> x.select(1));
        Check.due("P4 the present run is 0", 0, x.select(0));
        Check.due("P4 one snapshot", 1, x.snapshots());
        Check.due("P4 three steps", 3, x.forward(9));
        Check.due("P4 the new instruction", 9, x.register(0, 1));
    }

    private static void beginFromAnywhere() {
        Rewinder x = Check.machine("k 0 3; s 0 0; o 0; c 0 4; y; j 0 0; k 1 1; s 1 1; o 1; c 0 10; y");
        x.setSecond(6);
        x.begin();
        long sum = x.sum();
        x.tick(5);
        x.feed(6);
        x.change(0, 7);
        x.patch(0, 'k', 0, 50, 0);
        x.forward(9);
        Check.due("P4 the process 1", 1, x.present());
        Check.due("P4 with a frame", 1, x.frames(1));
        x.begin();
        Check.due("P4 all of the state is as at first", sum, x.sum());
        Check.due("P4 sound", true, x.isSound());
        for (int cell = 0; cell < 64; cell++) {
            Check.due("P4 cell " + cell, 0, x.cell(cell));
            Check.due("P4 never written " + cell, 0, x.writes(cell));
            Check.due("P4 hangs on nothing " + cell, 0, x.slice(cell));
        }
        x.forward(1);
        Check.due("P4 the code without the patch", 3, x.register(0, 0));
        x.tick(8);
        Check.due("P4 events come as at first", 8, x.clock());

        Rewinder taken = Check.machine("i 0; i 1; j 2 0");
        taken.begin();
        taken.feed(4);
        taken.feed(5);
        taken.forward(1);
        taken.begin();
        Check.due("P4 the console is empty", 0, taken.console());
        Check.due("P4 and filled anew", 1, taken.feed(6));
        taken.forward(2);
        Check.due("P4 from its first number", 6, taken.register(0, 0));
        Check.due("P4 which is the last one", -1, taken.register(0, 1));

        Rewinder many = Check.loop(100);
        many.tick(1);
        many.branch();
        many.begin();
        many.forward(5);
        many.branch();
        Check.due("P4 a branch has nothing of the branches before", 1, many.snapshots());
        Check.due("P4 a branch has nothing of the branches before", 0, many.events());
        Check.due("P4 a branch has nothing of the branches before", 8, many.pages());
    }

    private static void letters() {
        Rewinder x = Check.begun("k 0 -7; k 1 3; + 2 0 1; - 3 0 1; * 2 2 3; < 3 0 1; < 3 1 0; < 3 1 1; s 0 1; l 2 0");
        x.forward(3);
        Check.due("k", -7, x.register(0, 0));
        Check.due("+", -4, x.register(0, 2));
        x.forward(1);
        Check.due("-", -10, x.register(0, 3));
        x.forward(1);
        Check.due("*", 40, x.register(0, 2));
        x.forward(1);
        Check.due("< less", 1, x.register(0, 3));
        x.forward(1);
        Check.due("< greater", 0, x.register(0, 3));
        x.forward(1);
        Check.due("< equal", 0, x.register(0, 3));
        x.forward(1);
        Check.due("s, modulo 64", 3, x.cell(57));
        x.forward(1);
        Check.due("l, modulo 64", 3, x.register(0, 2));
        Check.due("over behind the last one", true, x.isOver(0));

        Rewinder y = Check.begun("k 0 999; * 0 0 0; * 0 0 0; * 0 0 0");
        y.forward(9);
        int product = 999 * 999;
        product *= product;
        Check.due("* wraps", product * product, y.register(0, 0));

        Rewinder z = Check.begun("i 0; i 1; t 2; o 0; o 2; k 0 0; j 0 0; j 2 9; k 1 1");
        z.feed(7);
        z.tick(-3);
        z.forward(5);
        Check.due("i", 7, z.register(0, 0));
        Check.due("i without a number", -1, z.register(0, 1));
        Check.due("t", -3, z.register(0, 2));
        Check.due("o", 7, z.outputAt(0));
        Check.due("o", -3, z.outputAt(1));
        z.forward(2);
        Check.due("j not", 7, z.place(0));
        z.forward(1);
        Check.due("j to a place without an instruction", 9, z.place(0));
        Check.due("j, over there", true, z.isOver(0));
    }

    private static void ends() {
        Rewinder deep = Check.begun("c 0 0");
        Check.due("c, the 7th ends it", 7, deep.forward(60));
        Check.due("c, 6 frames", 6, deep.frames(0));
        Check.due("c, over at its place", 0, deep.place(0));
        Check.due("c, over", true, deep.isOver(0));

        Rewinder up = Check.begun("k 0 1; r; k 0 2");
        Check.due("r without a frame", 2, up.forward(60));
        Check.due("r, over", true, up.isOver(0));
        Check.due("r, over at its place", 1, up.place(0));
        Check.due("r, the rest is not done", 1, up.register(0, 0));

        Rewinder both = Check.begun("y; k 0 1; y; k 0 2", 0);
        both.forward(1);
        Check.due("y", 1, both.present());
        Check.due("y goes on behind it", 1, both.place(0));
        both.forward(1);
        Check.due("y back", 0, both.present());
        both.forward(2);
        Check.due("y again", 1, both.present());
        both.forward(2);
        Check.due("y back again", 0, both.present());
        both.forward(1);
        Check.due("0 is over", true, both.isOver(0));
        Check.due("then 1 is the present one", 1, both.present());
        both.forward(5);
        Check.due("both are over", true, both.isOver(1));
        Check.due("the last one stays the present one", 1, both.present());
        Check.due("the end", 8, both.now());

        Rewinder alone = Check.begun("y; k 0 1");
        alone.forward(1);
        Check.due("y, the other one is over", 0, alone.present());
        alone.forward(1);
        Check.due("y, goes on", 1, alone.register(0, 0));
    }
}
