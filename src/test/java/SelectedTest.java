/** What is asked is of the present run, with nothing asked between select(), or branch(), and the question. */
public final class SelectedTest {
    private interface Question {
        Object of(Rewinder machine);
    }

    public static void main(String[] args) {
        writes();
        logs();
        snapshots();
        moves();
        branches();
        Check.finish();
    }

    /**
     * The run 0 sets the cell n to n with its step 3n, from the place 2; it has 90 steps, and then an event.
     * The run 1, the present one, has two events at 0 and 40 steps, and calls the place 4: from there the step
     * 5n - 1 sets the cell 1 to n. A break is at the place 4.
     */
    private static Rewinder twoRuns() {
        Rewinder x = Check.begun("k 2 1; + 1 1 2; s 1 1; j 2 1; s 2 1; r");
        x.addBreak(4, -1, 0, 0);
        Check.stepForward(x, 90);
        x.feed(3);
        x.go(0);
        x.branch();
        x.patch(2, 'c', 0, 4, 0);
        x.change(40, 7);
        x.forward(40);
        return x;
    }

    private static void ask(String what, Object first, Object second, Question question) {
        Rewinder x = twoRuns();
        Check.due(what + ", of the run 1", second, answer(question, x));
        x.select(0);
        Check.due(what + ", of the run 0", first, answer(question, x));
        Rewinder y = twoRuns();
        y.select(0);
        Check.due(what + ", of the run 0 first", first, answer(question, y));
        y.select(1);
        Check.due(what + ", of the run 1 then", second, answer(question, y));
    }

    private static Object answer(Question question, Rewinder machine) {
        try {
            return question.of(machine);
        } catch (RuntimeException e) {
            return e.getClass().getSimpleName();
        }
    }

    private static void writes() {
        ask("P31 cell", 1, 8, x -> x.cell(1));
        ask("P36 lastWrite", 2, 38, x -> x.lastWrite(1));
        ask("P36 lastWrite without one", 44, "NoSuchElementException", x -> x.lastWrite(15));
        ask("P37 writerOf", 2, 4, x -> x.writerOf(1));
        ask("P38 callerOf", -1, 3, x -> x.callerOf(1));
        ask("P39 writes", 1, 8, x -> x.writes(1));
        ask("P40 firstAbove", "NoSuchElementException", 9, x -> x.firstAbove(1, 1));
        ask("P40 firstAbove", 3, 4, x -> x.firstAbove(1, 0));
        ask("P48 slice", 3, 10, x -> x.slice(1));
        ask("P49 hangsOn", true, false, x -> x.hangsOn(1, 3));
        ask("P58 isSound", true, true, x -> x.isSound());
    }

    private static void logs() {
        ask("P50 events", 1, 2, x -> x.events());
        ask("P51 kindOf", 'f', 'p', x -> x.kindOf(0));
        ask("P52 countOf", 90, 0, x -> x.countOf(0));
        ask("P53 without", "NoSuchElementException", 32, x -> x.without(0));
        ask("P54 with", "IndexOutOfBoundsException", 32, x -> x.with(1, 8));
        ask("P54 with the same", "IndexOutOfBoundsException", "NoSuchElementException", x -> x.with(1, 7));
        ask("P54 with another one", "NoSuchElementException", "UnsupportedOperationException", x -> x.with(0, 8));
    }

    private static void snapshots() {
        ask("P41 snapshots", 5, 3, x -> x.snapshots());
        ask("P42 snapshotAt", 32, 16, x -> x.snapshotAt(1));
        ask("P43 pages", 15, 11, x -> x.pages());
        ask("P57 meanDistance", 20.0, 16.0, x -> x.meanDistance());
    }

    private static void moves() {
        ask("P24 end", 90, 40, x -> x.end());
        ask("P22 met", 0, 8, x -> x.met(0));
        ask("P9 goOn", 'l', 'b', x -> x.goOn());
        ask("P10 goBack", 's', 'b', x -> x.goBack());
        ask("P13 backNext", 89, 37, x -> x.backNext());
        ask("P14 backFinish", "UnsupportedOperationException", 37, x -> {
            x.go(39);
            return x.backFinish();
        });
        ask("P12 finish", "UnsupportedOperationException", 40, x -> {
            x.go(38);
            return x.finish();
        });
        ask("P44 again, from the snapshot ahead of it", 20, 4, x -> {
            int before = x.again();
            x.go(20);
            return x.again() - before;
        });
    }

    private static void branches() {
        ask("P45 the end of a branch", 90, 40, x -> {
            x.branch();
            return x.end();
        });
        ask("P45 the events of a branch", 1, 2, x -> {
            x.branch();
            return x.events();
        });
        ask("P45 the writes of a branch", 1, 8, x -> {
            x.branch();
            return x.writes(1);
        });
        ask("P45 the state of a branch", 0, 7, x -> {
            x.branch();
            x.back(1);
            return x.cell(40);
        });
    }
}
