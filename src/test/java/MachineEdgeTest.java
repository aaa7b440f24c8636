/** The edges that the document names in its 'Terms', under 'Machine' and 'Code', a test for each sentence. */
public final class MachineEdgeTest {
    private static final Document TERMS = Document.part("Machine. ", "Runs and moments. ");
    private static final int MOST = Integer.MAX_VALUE;
    private static final int LEAST = Integer.MIN_VALUE;

    public static void main(String[] args) {
        cells();
        processes();
        beginnings();
        presentAtFirst();
        numbersAtFirst();
        fortyInstructions();
        numbersOfLetters();
        constants();
        arithmetic();
        less();
        loads();
        stores();
        jumps();
        calls();
        returns();
        inputs();
        outputs();
        times();
        yields();
        noInstruction();
        presentIsOver();
        TERMS.isTold();
        Check.finish();
    }

    // ---- Machine ----

    private static void cells() {
        TERMS.says("Machine. There are 64 cells, ints that wrap, 0 at first, in 8 pages of 8;"
            + " the page of a cell is it divided by 8.");
        Rewinder x = Check.begun("j 0 0");
        for (int cell = 0; cell < 64; cell++) {
            Check.due("0 at first: " + cell, 0, x.cell(cell));
        }
        Check.index("no cell -1", () -> x.cell(-1));
        Check.index("no cell 64", () -> x.cell(64));
        Check.due("a cell wraps", LEAST, stored('+', MOST, 1));
        Check.due("a cell does not wrap yet", MOST, stored('+', MOST - 1, 1));
        Check.due("a cell wraps below", MOST, stored('-', LEAST, 1));
        Check.due("a cell does not wrap below yet", LEAST, stored('-', LEAST + 1, 1));
        Check.due("the first cell of the first page, and the last", 1, changedPages(0, 7));
        Check.due("the last cell of a page, and the first of the next", 2, changedPages(7, 8));
        Check.due("the first cell of the last page, and the last", 1, changedPages(56, 63));
        Check.due("the last cell ahead of the last page, and its first", 2, changedPages(55, 56));
        Check.due("all pages", 8, changedPages(0, 8, 16, 24, 32, 40, 48, 56));
    }

    private static int changedPages(int... cells) {
        Rewinder x = Check.begun("j 0 0; k 1 1; j 1 0");
        for (int cell : cells) {
            x.change(cell, 1);
        }
        x.forward(16);
        return x.pages() - 8;
    }

    private static void processes() {
        TERMS.says("The processes 0 and 1 have the registers 0 to 3, 0 at first, a place, and frames,"
            + " each with the place to which it returns, none at first.");
        Rewinder x = Check.begun("c 0 1; k 0 1", 1);
        for (int process = 0; process < 2; process++) {
            int one = process;
            for (int register = 0; register < 4; register++) {
                Check.due("0 at first", 0, x.register(one, register));
            }
            Check.index("no register -1", () -> x.register(one, -1));
            Check.index("no register 4", () -> x.register(one, 4));
            Check.due("no frame at first", 0, x.frames(one));
            Check.noElement("no frame at first", () -> x.returnsTo(one, 0));
            Check.due("a place", one, x.place(one));
        }
        for (int wrong : new int[] {-1, 2}) {
            Check.index("no process " + wrong, () -> x.place(wrong));
            Check.index("no process " + wrong, () -> x.frames(wrong));
            Check.index("no process " + wrong, () -> x.register(wrong, 0));
        }
        x.forward(1);
        Check.due("one frame", 1, x.frames(0));
        Check.due("where it returns", 1, x.returnsTo(0, 0));
        Check.noElement("no second frame", () -> x.returnsTo(0, 1));
        Check.noElement("none of the other process", () -> x.returnsTo(1, 0));
    }

    private static void beginnings() {
        TERMS.says("The process 0 begins at the place 0, the process 1 at its place of the beginning;"
            + " without one, it is over at first.");
        String code = "k 0 1; k 0 2; k 0 3";
        beginsAt("the first place", code, 0, 0, false);
        beginsAt("the last place with an instruction", code, 2, 2, false);
        beginsAt("the first place without one", code, 3, 3, true);
        beginsAt("the last place that is allowed", code, 40, 40, true);
        beginsAt("no beginning", code, -1, 0, true);
        beginsAt("the last place of all", "o 0" + "; o 0".repeat(39), 39, 39, false);
        beginsAt("the place behind it", "o 0" + "; o 0".repeat(39), 40, 40, true);
    }

    private static void beginsAt(String what, String code, int second, int place, boolean over) {
        Rewinder x = Check.begun(code, second);
        Check.due(what + ": place 1", place, x.place(1));
        Check.due(what + ": over 1", over, x.isOver(1));
        Check.due(what + ": place 0", 0, x.place(0));
        Check.due(what + ": over 0", false, x.isOver(0));
    }

    private static void presentAtFirst() {
        TERMS.says("One process is the present one, at first 0.");
        Check.due("both have instructions", 0, Check.begun("y; y", 1).present());
        Check.due("the process 1 is over", 0, Check.begun("y").present());
        Rewinder none = new Rewinder();
        none.setSecond(0);
        none.begin();
        Check.due("both are over", 0, none.present());
        none.swap();
        Check.due("and stays", 0, none.present());
    }

    private static void numbersAtFirst() {
        TERMS.says("The console has numbers that were fed, the clock a number, 0 at first; numbers are put out.");
        Rewinder x = Check.begun("i 0; o 0");
        Check.due("clock", 0, x.clock());
        Check.due("console", 0, x.console());
        Check.due("put out", 0, x.outputs());
        Check.index("nothing is put out", () -> x.outputAt(0));
        x.feed(8);
        Check.due("console", 1, x.console());
        x.forward(2);
        Check.due("console", 0, x.console());
        Check.due("put out", 1, x.outputs());
        Check.due("put out", 8, x.outputAt(0));
        Check.index("one is put out", () -> x.outputAt(1));
    }

    // ---- Code ----

    private static void fortyInstructions() {
        TERMS.says("Code. At most 40 instructions have the places from 0 on.");
        Rewinder x = new Rewinder();
        for (int place = 0; place < 40; place++) {
            Check.due("the places from 0 on", place, x.add('k', 0, place, 0));
        }
        Check.state("the 41st", () -> x.add('k', 0, 40, 0));
        Check.due("40 in the run", 40, x.begin());
        x.forward(39);
        Check.due("at the last one", 39, x.place(0));
        Check.due("not over there", false, x.isOver(0));
        x.forward(1);
        Check.due("the last one is done", 39, x.register(0, 0));
        Check.due("over behind it", true, x.isOver(0));
        Check.due("at the place behind it", 40, x.place(0));
        Check.due("no step more", 40, x.forward(1));
    }

    private static void numbersOfLetters() {
        TERMS.says("An instruction has a letter and the numbers a, b and c, of which those are registers"
            + " that are told so:");
        for (char letter : "k+-*<lsjcrioty".toCharArray()) {
            boolean a = "cry".indexOf(letter) < 0;
            boolean b = "+-*<ls".indexOf(letter) >= 0;
            boolean c = "+-*<".indexOf(letter) >= 0;
            Check.due(letter + ": the first registers", true, fits(letter, 0, 0, 0));
            Check.due(letter + ": the last registers", true, fits(letter, 3, 3, 3));
            for (int wrong : new int[] {-1, 4}) {
                Check.due(letter + ": a is " + wrong, !a, fits(letter, wrong, 0, 0));
                Check.due(letter + ": c is " + wrong, !c, fits(letter, 0, 0, wrong));
            }
            Check.due(letter + ": b is 4", !b, fits(letter, 0, 4, 0));
            Check.due(letter + ": b is -1", !b && letter != 'j' && letter != 'c', fits(letter, 0, -1, 0));
        }
    }

    private static boolean fits(char letter, int a, int b, int c) {
        Rewinder x = new Rewinder();
        try {
            x.add(letter, a, b, c);
            return true;
        } catch (IllegalArgumentException e) {
            return false;
        }
    }

    private static void constants() {
        TERMS.says("'k': the register a becomes the number b.");
        Rewinder x = Check.begun("k 0 -999; k 3 999; k 1 0");
        x.forward(3);
        Check.due("the least", -999, x.register(0, 0));
        Check.due("the greatest", 999, x.register(0, 3));
        Check.due("0", 0, x.register(0, 1));
        Check.due("too small", false, fits('k', 0, -1000, 0));
        Check.due("too great", false, fits('k', 0, 1000, 0));
    }

    /** What an instruction makes of two numbers, in a cell. */
    private static int stored(char letter, int left, int right) {
        Rewinder x = Check.begun("l 1 0; k 2 1; l 2 2; " + letter + " 3 1 2; s 0 3");
        x.change(0, left);
        x.change(1, right);
        x.forward(5);
        Check.due("the register has it, too", x.cell(0), x.register(0, 3));
        return x.cell(0);
    }

    private static void arithmetic() {
        TERMS.says("'+', '-', '*': the register a becomes the sum, difference or product of the registers b and c.");
        Check.due("+ up to the greatest", MOST, stored('+', MOST, 0));
        Check.due("+ wraps", LEAST, stored('+', 1, MOST));
        Check.due("+ wraps below", MOST, stored('+', LEAST, -1));
        Check.due("+ wraps by far", -2, stored('+', MOST, MOST));
        Check.due("- down to the least", LEAST, stored('-', -1, MOST));
        Check.due("- wraps below", MOST, stored('-', -2, MOST));
        Check.due("- wraps above", LEAST, stored('-', 0, LEAST));
        Check.due("- is not turned", -7, stored('-', 2, 9));
        Check.due("* ahead of wrapping", 46340 * 46340, stored('*', 46340, 46340));
        Check.due("* wraps", -2147479015, stored('*', 46341, 46341));
        Check.due("* of the least", LEAST, stored('*', LEAST, -1));
        Rewinder own = Check.begun("k 1 7; + 1 1 1; * 1 1 1; - 1 1 1");
        own.forward(2);
        Check.due("a register of itself", 14, own.register(0, 1));
        own.forward(1);
        Check.due("a register of itself", 196, own.register(0, 1));
        own.forward(1);
        Check.due("a register of itself", 0, own.register(0, 1));
    }

    private static void less() {
        TERMS.says("'<': the register a becomes 1 if the register b is less than the register c, otherwise 0.");
        Check.due("less by 1", 1, stored('<', 4, 5));
        Check.due("equal", 0, stored('<', 5, 5));
        Check.due("greater by 1", 0, stored('<', 6, 5));
        Check.due("around 0", 1, stored('<', -1, 0));
        Check.due("the least and the greatest", 1, stored('<', LEAST, MOST));
        Check.due("the greatest and the least", 0, stored('<', MOST, LEAST));
    }

    private static void loads() {
        TERMS.says("'l': the register a becomes the cell whose number is the register b, modulo 64,"
            + " so that it is not less than 0.");
        int[][] rows = {{1, 1}, {62, 62}, {63, 63}, {65, 1}, {127, 63}, {129, 1}, {-1, 63}, {-2, 62}, {-62, 2},
            {-63, 1}, {-65, 63}, {MOST, 63}, {LEAST + 1, 1}, {LEAST + 63, 63}};
        for (int[] row : rows) {
            Check.due("the cell " + row[0], 1000 + row[1], loaded(row[0]));
        }
        for (int zero : new int[] {0, 64, 128, -64, -128, LEAST, MOST - 63}) {
            Check.due("the cell " + zero + " is the cell 0, where the number is", zero, loaded(zero));
        }
    }

    private static int loaded(int number) {
        Rewinder x = Check.begun("l 1 0; l 2 1");
        for (int cell = 1; cell < 64; cell++) {
            x.change(cell, 1000 + cell);
        }
        x.change(0, number);
        x.forward(2);
        return x.register(0, 2);
    }

    private static void stores() {
        TERMS.says("'s': the cell whose number is the register a, so, becomes the register b.");
        int[][] rows = {{0, 0}, {63, 63}, {64, 0}, {65, 1}, {127, 63}, {128, 0}, {-1, 63}, {-63, 1}, {-64, 0},
            {-65, 63}, {MOST, 63}, {LEAST, 0}};
        for (int[] row : rows) {
            Rewinder x = Check.begun("l 1 0; k 2 -7; s 1 2");
            x.change(0, row[0]);
            x.forward(3);
            Check.due("the cell " + row[0], -7, x.cell(row[1]));
            Check.due("was written", 1, x.writes(row[1]));
            Check.due("and the one behind it was not", 0, x.writes((row[1] + 1) % 64));
        }
    }

    private static void jumps() {
        TERMS.says("'j': goes on at the place b if the register a is not 0.");
        Check.due("0 goes on behind it", 2, jumped(0));
        for (int other : new int[] {1, -1, 2, MOST, LEAST}) {
            Check.due(other + " goes to the place", 0, jumped(other));
        }
        Check.due("to the last place that is allowed", true, fits('j', 0, 40, 0));
        Check.due("not to the first that is not", false, fits('j', 0, 41, 0));
        Check.due("not ahead of 0", false, fits('j', 0, -1, 0));
    }

    private static int jumped(int number) {
        Rewinder x = Check.begun("l 1 0; j 1 0; o 0");
        x.change(0, number);
        x.forward(2);
        return x.place(0);
    }

    private static void calls() {
        TERMS.says("'c': a frame with the place behind it is made, and it goes on at the place b;"
            + " with 6 frames already, the process is over instead.");
        Rewinder x = Check.begun("c 0 1; c 0 0");
        x.forward(5);
        Check.due("five frames", 5, x.frames(0));
        x.forward(1);
        Check.due("the sixth", 6, x.frames(0));
        Check.due("not over with it", false, x.isOver(0));
        Check.due("it goes on", 0, x.place(0));
        x.forward(1);
        Check.due("no seventh", 6, x.frames(0));
        Check.due("over instead", true, x.isOver(0));
        Check.due("it does not go on", 0, x.place(0));
        for (int frame = 0; frame < 6; frame++) {
            Check.due("the place behind it: " + frame, frame % 2 == 0 ? 2 : 1, x.returnsTo(0, frame));
        }
        Check.noElement("no seventh", () -> x.returnsTo(0, 6));
        Check.due("no step more", 7, x.forward(1));
        Check.due("to the last place that is allowed", true, fits('c', 0, 40, 0));
        Check.due("not to the first that is not", false, fits('c', 0, 41, 0));
        Check.due("not ahead of 0", false, fits('c', 0, -1, 0));
        Rewinder both = Check.begun("y; c 0 1; c 0 2", 2);
        both.forward(8);
        Check.due("the process 1 is over instead", true, both.isOver(1));
        Check.due("with its 6 frames", 6, both.frames(1));
        Check.due("at the place of this 'c'", 2, both.place(1));
        Check.due("the process 0 goes on", 0, both.present());
        both.forward(6);
        Check.due("with 6 frames of its own", 6, both.frames(0));
        Check.due("not over", false, both.isOver(0));
    }

    private static void returns() {
        TERMS.says("'r': goes on where the last frame returns, which is gone; without one, the process is over.");
        Rewinder x = Check.begun("c 0 3; k 0 1; r; c 0 5; r; r");
        x.forward(2);
        Check.due("two frames", 2, x.frames(0));
        x.forward(1);
        Check.due("the last one is gone", 1, x.frames(0));
        Check.due("it goes on there", 4, x.place(0));
        Check.due("the first one is left", 1, x.returnsTo(0, 0));
        x.forward(1);
        Check.due("the first one is gone", 0, x.frames(0));
        Check.due("it goes on there", 1, x.place(0));
        Check.due("not over", false, x.isOver(0));
        x.forward(2);
        Check.due("over without one", true, x.isOver(0));
        Check.due("still without one", 0, x.frames(0));
        Check.due("where it was last", 2, x.place(0));
    }

    private static void inputs() {
        TERMS.says("'i': the register a becomes the first number of the console, which is gone from it;"
            + " -1 without one.");
        Rewinder x = Check.begun("i 0; i 1; i 2; i 3");
        x.feed(LEAST);
        x.feed(-1);
        x.feed(MOST);
        x.forward(1);
        Check.due("the first one", LEAST, x.register(0, 0));
        Check.due("it is gone", 2, x.console());
        x.forward(1);
        Check.due("a -1 that was fed", -1, x.register(0, 1));
        Check.due("it is gone", 1, x.console());
        x.forward(1);
        Check.due("the last one", MOST, x.register(0, 2));
        Check.due("it is gone", 0, x.console());
        x.forward(1);
        Check.due("without one", -1, x.register(0, 3));
        Check.due("still none", 0, x.console());
    }

    private static void outputs() {
        TERMS.says("'o': the register a is put out.");
        Rewinder x = Check.begun("o 0; i 3; o 3; i 0; o 0");
        x.feed(LEAST);
        x.feed(MOST);
        x.forward(5);
        Check.due("three numbers", 3, x.outputs());
        Check.due("0", 0, x.outputAt(0));
        Check.due("the least", LEAST, x.outputAt(1));
        Check.due("the greatest", MOST, x.outputAt(2));
        Check.index("no fourth", () -> x.outputAt(3));
        Rewinder many = Check.begun("o 0; j 1 0; o 0; k 1 1; j 1 0");
        Check.stepForward(many, 400);
        many.go(5);
        Check.due("a number of each 'o'", 2, many.outputs());
    }

    private static void times() {
        TERMS.says("'t': the register a becomes the clock.");
        Rewinder x = Check.begun("t 0; t 1; t 3");
        x.forward(1);
        Check.due("at first", 0, x.register(0, 0));
        x.tick(LEAST);
        x.forward(1);
        Check.due("the least", LEAST, x.register(0, 1));
        x.tick(MOST);
        x.forward(1);
        Check.due("the greatest", MOST, x.register(0, 3));
        Check.due("the clock stays", MOST, x.clock());
    }

    private static void yields() {
        TERMS.says("'y': the other process is the present one, if it is not over.");
        Rewinder x = Check.begun("y; r; y; y", 2);
        x.forward(1);
        Check.due("the other one", 1, x.present());
        Check.due("it goes on behind it later", 1, x.place(0));
        x.forward(1);
        Check.due("back", 0, x.present());
        x.forward(1);
        Check.due("0 is over", true, x.isOver(0));
        Check.due("1 is the present one", 1, x.present());
        x.forward(1);
        Check.due("the other one is over: the end", 4, x.forward(1));
        Check.due("1 was the present one", 1, x.present());
        Rewinder alone = Check.begun("y; y; k 0 1");
        alone.forward(2);
        Check.due("it stays", 0, alone.present());
        Check.due("it goes on", 2, alone.place(0));
        Check.due("it is not over", false, alone.isOver(0));
        Rewinder last = Check.begun("k 0 1; y", 0);
        last.forward(2);
        Check.due("behind the last one: over", true, last.isOver(0));
        Check.due("the other one, once", 1, last.present());
    }

    private static void noInstruction() {
        TERMS.says("A process that comes to a place without an instruction is over.");
        comesTo("by a step to the last one", "k 0 1; k 0 2", 1, 1, false);
        comesTo("by a step behind the last one", "k 0 1; k 0 2", 2, 2, true);
        comesTo("by a 'j' to the last one", "k 0 1; j 0 2; k 0 1", 2, 2, false);
        comesTo("by a 'j' behind the last one", "k 0 1; j 0 3; k 0 1", 2, 3, true);
        comesTo("by a 'j' to 40", "k 0 1; j 0 40; k 0 1", 2, 40, true);
        comesTo("by a 'c' to the last one", "c 0 1; k 0 1", 1, 1, false);
        comesTo("by a 'c' behind the last one", "c 0 2; k 0 1", 1, 2, true);
        comesTo("by a 'c' to 40", "c 0 40; k 0 1", 1, 40, true);
        comesTo("by an 'r' to the last one", "k 0 1; j 0 3; r; c 0 2; k 0 1", 4, 4, false);
        comesTo("by an 'r' behind the last one", "k 0 1; j 0 3; r; c 0 2", 4, 4, true);
        comesTo("by a 'y' without another one", "y", 1, 1, true);
        String forty = "k 0 1; j 0 39" + "; o 0".repeat(38);
        comesTo("by a 'j' to the last of 40", forty, 2, 39, false);
        comesTo("by a 'j' behind the last of 40", forty.replace("39", "40"), 2, 40, true);
        Rewinder none = new Rewinder();
        none.begin();
        Check.due("without any: over", true, none.isOver(0));
        Check.due("without any: at 0", 0, none.place(0));
        Rewinder framed = Check.begun("c 0 2; k 0 1");
        framed.forward(1);
        Check.due("its frame stays", 1, framed.frames(0));
    }

    private static void comesTo(String what, String code, int steps, int place, boolean over) {
        Rewinder x = Check.begun(code);
        Check.due(what + ": steps", steps, x.forward(steps));
        Check.due(what + ": place", place, x.place(0));
        Check.due(what + ": over", over, x.isOver(0));
        Check.due(what + ": the next step", over ? steps : steps + 1, x.forward(1));
    }

    private static void presentIsOver() {
        TERMS.says("When the present process is over, the other one is the present one, if it is not over.");
        Rewinder x = Check.begun("k 0 1; r; k 0 2; k 0 3", 2);
        x.forward(1);
        Check.due("not over yet", 0, x.present());
        x.forward(1);
        Check.due("the other one", 1, x.present());
        Check.due("which did no step yet", 2, x.place(1));
        x.forward(2);
        Check.due("both are over", true, x.isOver(0) && x.isOver(1));
        Check.due("it stays", 1, x.present());
        Rewinder back = Check.begun("k 0 1; r; k 0 2; k 0 3", 2);
        back.swap();
        back.forward(2);
        Check.due("the process 1 is over first", 0, back.present());
        Check.due("back in the run of 0", 0, back.place(0));
        Rewinder alone = Check.begun("k 0 1");
        alone.forward(1);
        Check.due("the process 1 was over at first", 0, alone.present());
    }
}
