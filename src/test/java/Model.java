import java.util.ArrayDeque;
import java.util.ArrayList;
import java.util.Arrays;
import java.util.Collections;
import java.util.HashMap;
import java.util.HashSet;
import java.util.List;
import java.util.Map;
import java.util.NoSuchElementException;
import java.util.Set;
import java.util.TreeMap;
import java.util.TreeSet;

/**
 * A second machine, written from the document alone and slow: it keeps just the log and the number of steps
 * of each run, and does all from the beginning whenever it is asked. ModelTest compares the class with it.
 */
public final class Model {
    private record Op(char letter, int a, int b, int c) {
    }

    private record Happening(char kind, int count, int target, int value, Op op) {
    }

    private record Watch(int place, int register, int value, int passes) {
    }

    /** A moment, with what the steps up to it left behind. */
    private static final class Moment {
        int count;
        final Map<String, Integer> holds = new TreeMap<>();
        final Map<String, Set<Integer>> hangs = new HashMap<>();
        final List<List<Integer>> frames = List.of(new ArrayList<>(), new ArrayList<>());
        final int[] place = {0, 0};
        final boolean[] over = {false, false};
        int present;
        int clock;
        final ArrayDeque<Integer> console = new ArrayDeque<>();
        final List<Integer> outputs = new ArrayList<>();
        final List<Op> code = new ArrayList<>();

        int get(String what) {
            return holds.getOrDefault(what, 0);
        }

        Set<Integer> why(String what) {
            return hangs.getOrDefault(what, Set.of());
        }

        void set(String what, int value, String... reads) {
            Set<Integer> all = new HashSet<>(Set.of(count + 1));
            for (String read : reads) {
                all.addAll(why(read));
            }
            hangs.put(what, all);
            holds.put(what, value);
        }

        static String cell(int number) {
            return "cell" + ((number % 64 + 64) % 64);
        }

        String register(int number) {
            return "register" + present + "," + number;
        }

        void turn() {
            if (!over[1 - present]) {
                present = 1 - present;
            }
        }

        boolean ended() {
            return over[0] && over[1];
        }

        Op todo() {
            return code.get(place[present]);
        }

        void step() {
            int me = present;
            Op op = todo();
            String a = register(op.a);
            String b = register(op.b);
            String c = register(op.c);
            List<Integer> mine = frames.get(me);
            int to = place[me] + 1;
            boolean turns = false;
            if (op.letter == 'k') {
                set(a, op.b);
            } else if (op.letter == '+') {
                set(a, get(b) + get(c), b, c);
            } else if (op.letter == '-') {
                set(a, get(b) - get(c), b, c);
            } else if (op.letter == '*') {
                set(a, get(b) * get(c), b, c);
            } else if (op.letter == '<') {
                set(a, get(b) < get(c) ? 1 : 0, b, c);
            } else if (op.letter == 'l') {
                set(a, get(cell(get(b))), b, cell(get(b)));
            } else if (op.letter == 's') {
                set(cell(get(a)), get(b), a, b);
            } else if (op.letter == 'i') {
                set(a, console.isEmpty() ? -1 : console.removeFirst());
            } else if (op.letter == 't') {
                set(a, clock);
            } else if (op.letter == 'o') {
                outputs.add(get(a));
            } else if (op.letter == 'y') {
                turns = true;
            } else if (op.letter == 'j') {
                to = get(a) == 0 ? to : op.b;
            } else if (op.letter == 'c' && mine.size() < 6) {
                mine.add(to);
                to = op.b;
            } else if (op.letter == 'r' && !mine.isEmpty()) {
                to = mine.remove(mine.size() - 1);
            } else {
                over[me] = true;
                to = place[me];
            }
            place[me] = to;
            over[me] |= to >= code.size();
            if (turns || over[me]) {
                turn();
            }
            count++;
        }

        void happen(Happening event, int value) {
            switch (event.kind) {
                case 'f' -> console.addLast(value);
                case 't' -> clock = value;
                case 'x' -> turn();
                case 'm' -> {
                    holds.put(cell(event.target), value);
                    hangs.remove(cell(event.target));
                }
                default -> code.set(event.target, event.op);
            }
        }

        long sum() {
            List<Integer> items = new ArrayList<>();
            for (int i = 0; i < 64; i++) {
                items.add(get("cell" + i));
            }
            for (int p = 0; p < 2; p++) {
                for (int i = 0; i < 4; i++) {
                    items.add(get("register" + p + "," + i));
                }
                items.add(place[p]);
                items.add(over[p] ? 1 : 0);
                items.add(frames.get(p).size());
                List<Integer> turned = new ArrayList<>(frames.get(p));
                Collections.reverse(turned);
                items.addAll(turned);
            }
            items.add(present);
            items.add(clock);
            items.add(console.size());
            items.addAll(console);
            items.add(outputs.size());
            items.addAll(outputs);
            long sum = 7;
            for (int item : items) {
                sum = sum * 31 + item;
            }
            return sum;
        }

        boolean meets(Watch watch) {
            return !over[present] && place[present] == watch.place
                && (watch.register == -1 || get(register(watch.register)) == watch.value);
        }
    }

    private static final class Run {
        final List<Happening> log = new ArrayList<>();
        final TreeSet<Integer> snapshots = new TreeSet<>(Set.of(0));
        int end;
    }

    private interface Visit {
        /** Looks at a moment; answers whether to go on. */
        boolean at(Moment moment);
    }

    private final List<Op> added = new ArrayList<>();
    private int second = -1;
    private List<Op> code;
    private int start;
    private final List<Run> runs = new ArrayList<>();
    private int selected;
    private int now;
    private final List<Watch> watches = new ArrayList<>();
    private int redone;
    private int fresh;

    // ---- doing a run from the beginning ----

    private Moment first() {
        Moment m = new Moment();
        m.code.addAll(code);
        m.over[0] = code.isEmpty();
        m.place[1] = Math.max(0, start);
        m.over[1] = start < 0 || start >= code.size();
        return m;
    }

    private static void happenings(Run run, Moment m) {
        for (Happening event : run.log) {
            if (event.count == m.count) {
                m.happen(event, event.value);
            }
        }
    }

    /** Shows all moments of a run, behind their events, up to one. */
    private void visit(Run run, int last, Visit visit) {
        Moment m = first();
        happenings(run, m);
        while (visit.at(m) && m.count < last) {
            m.step();
            happenings(run, m);
        }
    }

    private Moment at(Run run, int moment) {
        Moment[] found = new Moment[1];
        visit(run, moment, m -> {
            found[0] = m;
            return true;
        });
        return found[0];
    }

    private Run run() {
        if (runs.isEmpty()) {
            throw new IllegalStateException();
        }
        return runs.get(selected);
    }

    private Moment here() {
        return at(run(), now);
    }

    private void move(int moment) {
        int from = run().snapshots.floor(moment);
        redone += moment >= now && from <= now ? moment - now : moment - from;
        now = moment;
    }

    private boolean grow() {
        Run run = run();
        if (run.end == 400 || at(run, run.end).ended()) {
            return false;
        }
        run.end++;
        fresh++;
        now = run.end;
        int n = run.end;
        if (n % 16 == 0) {
            run.snapshots.add(n);
            run.snapshots.removeIf(c -> !(n - c < 64 || n - c < 256 && c % 64 == 0 || c == 0));
        }
        return true;
    }

    /** Goes forward by one step to some, up to a moment that the visit does not pass. */
    private boolean ahead(int most, Visit passes) {
        Run run = run();
        int from = now;
        int[] found = {-1};
        visit(run, Math.min(run.end, from + most), m -> {
            if (m.count > from && !passes.at(m)) {
                found[0] = m.count;
            }
            return found[0] < 0;
        });
        if (found[0] >= 0) {
            move(found[0]);
            return true;
        }
        move(Math.min(run.end, from + most));
        while (now < from + most && grow()) {
            if (!passes.at(here())) {
                return true;
            }
        }
        return false;
    }

    private Set<Integer> holding(Run run, int last) {
        Set<Integer> moments = new TreeSet<>();
        int[] met = new int[watches.size()];
        visit(run, last, m -> {
            for (int i = 0; i < met.length; i++) {
                if (watches.get(i) != null && m.meets(watches.get(i)) && ++met[i] > watches.get(i).passes) {
                    moments.add(m.count);
                }
            }
            return true;
        });
        return moments;
    }

    private static void checkOp(char letter, int a, int b, int c) {
        boolean good = "k+-*<lsjcrioty".indexOf(letter) >= 0;
        good &= "cry".indexOf(letter) >= 0 || a >= 0 && a <= 3;
        good &= letter != 'k' || Math.abs((long) b) <= 999;
        good &= "+-*<ls".indexOf(letter) < 0 || b >= 0 && b <= 3;
        good &= "jc".indexOf(letter) < 0 || b >= 0 && b <= 40;
        good &= "+-*<".indexOf(letter) < 0 || c >= 0 && c <= 3;
        if (!good) {
            throw new IllegalArgumentException();
        }
    }

    private static void checkIndex(int index, int size) {
        if (index < 0 || index >= size) {
            throw new IndexOutOfBoundsException();
        }
    }

    private void checkEnd() {
        if (now != run().end) {
            throw new UnsupportedOperationException();
        }
    }

    // ---- the face ----

    public int add(char letter, int a, int b, int c) {
        checkOp(letter, a, b, c);
        if (added.size() == 40) {
            throw new IllegalStateException();
        }
        added.add(new Op(letter, a, b, c));
        return added.size() - 1;
    }

    public int setSecond(int place) {
        if (place < -1 || place > 40) {
            throw new IllegalArgumentException();
        }
        int before = second;
        second = place;
        return before;
    }

    public int begin() {
        code = List.copyOf(added);
        start = second;
        runs.clear();
        runs.add(new Run());
        watches.clear();
        selected = 0;
        now = 0;
        redone = 0;
        fresh = 0;
        return code.size();
    }

    public int instructions() {
        return added.size();
    }

    public int forward(int steps) {
        run();
        if (steps < 1 || steps > 60) {
            throw new IllegalArgumentException();
        }
        ahead(steps, m -> true);
        return now;
    }

    public int back(int steps) {
        run();
        if (steps < 1 || steps > 400) {
            throw new IllegalArgumentException();
        }
        move(Math.max(0, now - steps));
        return now;
    }

    public int go(int moment) {
        checkIndex(moment, run().end + 1);
        int before = now;
        move(moment);
        return before;
    }

    public char goOn() {
        Run run = run();
        boolean found = ahead(60, m -> !holding(run, m.count).contains(m.count));
        return found ? 'b' : here().ended() ? 'e' : 'l';
    }

    public char goBack() {
        Set<Integer> moments = holding(run(), now);
        moments.remove(now);
        move(moments.isEmpty() ? 0 : Collections.max(moments));
        return moments.isEmpty() ? 's' : 'b';
    }

    public int next() {
        Moment m = at(run(), now);
        int p = m.present;
        int frames = m.frames.get(p).size();
        ahead(60, n -> !(n.frames.get(p).size() <= frames && (n.present == p || n.over[p])));
        return now;
    }

    public int finish() {
        Moment m = at(run(), now);
        int p = m.present;
        int frames = m.frames.get(p).size();
        if (frames == 0) {
            throw new UnsupportedOperationException();
        }
        ahead(60, n -> !(n.over[p] || n.frames.get(p).size() < frames));
        return now;
    }

    public int backNext() {
        Moment m = at(run(), now);
        int p = m.present;
        int frames = m.frames.get(p).size();
        List<Integer> found = new ArrayList<>();
        visit(run(), now, n -> {
            if (n.count < now && n.present == p && n.frames.get(p).size() <= frames) {
                found.add(n.count);
            }
            return true;
        });
        if (found.isEmpty()) {
            throw new NoSuchElementException();
        }
        move(Collections.max(found));
        return now;
    }

    public int backFinish() {
        Moment m = at(run(), now);
        int p = m.present;
        int frames = m.frames.get(p).size();
        if (frames == 0) {
            throw new UnsupportedOperationException();
        }
        List<Integer> found = new ArrayList<>();
        visit(run(), now, n -> {
            if (n.count < now && n.frames.get(p).size() < frames) {
                found.add(n.count);
            }
            return true;
        });
        move(Collections.max(found));
        return now;
    }

    private void log(char kind, int target, int value, Op op) {
        run().log.add(new Happening(kind, now, target, value, op));
    }

    public int feed(int value) {
        checkEnd();
        log('f', 0, value, null);
        return here().console.size();
    }

    public int tick(int value) {
        checkEnd();
        int before = here().clock;
        log('t', 0, value, null);
        return before;
    }

    public int swap() {
        checkEnd();
        log('x', 0, 0, null);
        return here().present;
    }

    public int change(int cell, int value) {
        run();
        checkIndex(cell, 64);
        checkEnd();
        int before = cell(cell);
        log('m', cell, value, null);
        return before;
    }

    public char patch(int place, char letter, int a, int b, int c) {
        run();
        checkIndex(place, code.size());
        checkOp(letter, a, b, c);
        checkEnd();
        char before = here().code.get(place).letter;
        log('p', place, 0, new Op(letter, a, b, c));
        return before;
    }

    public int addBreak(int place, int register, int value, int passes) {
        run();
        if (place < 0 || place > 39 || register < -1 || register > 3 || passes < 0 || passes > 99) {
            throw new IllegalArgumentException();
        }
        if (watches.size() == 8) {
            throw new UnsupportedOperationException();
        }
        watches.add(new Watch(place, register, value, passes));
        return watches.size() - 1;
    }

    private Watch watch(int index) {
        run();
        if (index < 0 || index >= watches.size() || watches.get(index) == null) {
            throw new NoSuchElementException();
        }
        return watches.get(index);
    }

    public int removeBreak(int index) {
        watch(index);
        watches.set(index, null);
        return watches.size() - Collections.frequency(watches, null);
    }

    public int met(int index) {
        Watch watch = watch(index);
        int[] met = {0};
        visit(run(), now, m -> {
            met[0] += m.meets(watch) ? 1 : 0;
            return true;
        });
        return met[0];
    }

    public int now() {
        run();
        return now;
    }

    public int end() {
        return run().end;
    }

    public int present() {
        return here().present;
    }

    public boolean isOver(int process) {
        run();
        checkIndex(process, 2);
        return here().over[process];
    }

    public int place(int process) {
        run();
        checkIndex(process, 2);
        return here().place[process];
    }

    public int register(int process, int register) {
        run();
        checkIndex(process, 2);
        checkIndex(register, 4);
        return here().get("register" + process + "," + register);
    }

    public int frames(int process) {
        run();
        checkIndex(process, 2);
        return here().frames.get(process).size();
    }

    public int returnsTo(int process, int frame) {
        run();
        checkIndex(process, 2);
        List<Integer> all = here().frames.get(process);
        if (frame < 0 || frame >= all.size()) {
            throw new NoSuchElementException();
        }
        return all.get(all.size() - 1 - frame);
    }

    public int cell(int cell) {
        run();
        checkIndex(cell, 64);
        return here().get("cell" + cell);
    }

    public int outputs() {
        return here().outputs.size();
    }

    public int outputAt(int index) {
        checkIndex(index, here().outputs.size());
        return here().outputs.get(index);
    }

    public int clock() {
        return here().clock;
    }

    public int console() {
        return here().console.size();
    }

    /** For each 's' of a cell up to a moment: the step, the place, and where the last frame returned. */
    private List<int[]> settings(Run run, int cell, int last) {
        List<int[]> all = new ArrayList<>();
        visit(run, last, m -> {
            if (m.count < last && m.todo().letter == 's'
                && Moment.cell(m.get(m.register(m.todo().a))).equals("cell" + cell)) {
                List<Integer> frames = m.frames.get(m.present);
                int caller = frames.isEmpty() ? -1 : frames.get(frames.size() - 1);
                all.add(new int[] {m.count + 1, m.place[m.present], caller});
            }
            return true;
        });
        return all;
    }

    private int[] lastSetting(int cell) {
        run();
        checkIndex(cell, 64);
        List<int[]> all = settings(run(), cell, now);
        if (all.isEmpty()) {
            throw new NoSuchElementException();
        }
        return all.get(all.size() - 1);
    }

    public int lastWrite(int cell) {
        return lastSetting(cell)[0] - 1;
    }

    public int writerOf(int cell) {
        return lastSetting(cell)[1];
    }

    public int callerOf(int cell) {
        return lastSetting(cell)[2];
    }

    public int writes(int cell) {
        run();
        checkIndex(cell, 64);
        return settings(run(), cell, now).size();
    }

    public int firstAbove(int cell, int value) {
        run();
        checkIndex(cell, 64);
        int[] found = {-1};
        visit(run(), now, m -> {
            if (m.get("cell" + cell) > value) {
                found[0] = m.count;
            }
            return found[0] < 0;
        });
        if (found[0] < 0) {
            throw new NoSuchElementException();
        }
        return found[0];
    }

    public int snapshots() {
        return run().snapshots.size();
    }

    public int snapshotAt(int index) {
        checkIndex(index, run().snapshots.size());
        return new ArrayList<>(run().snapshots).get(index);
    }

    public int pages() {
        Run run = run();
        Set<String> pages = new HashSet<>();
        for (int page = 0; page < 8; page++) {
            pages.add("0 " + page);
        }
        for (int cell = 0; cell < 64; cell++) {
            for (int[] setting : settings(run, cell, run.snapshots.last())) {
                pages.add(run.snapshots.ceiling(setting[0]) + " " + cell / 8);
            }
        }
        for (Happening event : run.log) {
            Integer behind = run.snapshots.higher(event.count);
            if (event.kind == 'm' && behind != null) {
                pages.add(behind + " " + event.target / 8);
            }
        }
        return pages.size();
    }

    public int again() {
        run();
        return redone;
    }

    public int branch() {
        Run from = run();
        if (runs.size() == 5) {
            throw new UnsupportedOperationException();
        }
        Run made = new Run();
        for (Happening event : from.log) {
            if (event.count <= now) {
                made.log.add(event);
            }
        }
        made.snapshots.addAll(from.snapshots.headSet(now, true));
        made.end = now;
        runs.add(made);
        selected = runs.size() - 1;
        return selected;
    }

    public int select(int run) {
        run();
        checkIndex(run, runs.size());
        int before = selected;
        selected = run;
        now = run().end;
        redone += now - run().snapshots.last();
        return before;
    }

    private List<Long> sums(Run run) {
        List<Long> all = new ArrayList<>();
        visit(run, run.end, m -> all.add(m.sum()));
        return all;
    }

    public int difference(int run) {
        run();
        checkIndex(run, runs.size());
        List<Long> mine = sums(run());
        List<Long> other = sums(runs.get(run));
        for (int i = 0; i < mine.size() && i < other.size(); i++) {
            if (!mine.get(i).equals(other.get(i))) {
                return i;
            }
        }
        throw new NoSuchElementException();
    }

    public int slice(int cell) {
        run();
        checkIndex(cell, 64);
        return here().why("cell" + cell).size();
    }

    public boolean hangsOn(int cell, int step) {
        run();
        checkIndex(cell, 64);
        return here().why("cell" + cell).contains(step);
    }

    public int events() {
        return run().log.size();
    }

    public char kindOf(int index) {
        checkIndex(index, run().log.size());
        return run().log.get(index).kind;
    }

    public int countOf(int index) {
        checkIndex(index, run().log.size());
        return run().log.get(index).count;
    }

    /** The sums behind the steps and ahead of the events, as far as there are steps; with another log. */
    private List<Long> earlySums(List<Happening> log, int end) {
        List<Long> all = new ArrayList<>();
        Moment m = first();
        while (true) {
            all.add(m.sum());
            for (Happening event : log) {
                if (event.count == m.count) {
                    m.happen(event, event.value);
                }
            }
            if (m.count == end || m.ended()) {
                return all;
            }
            m.step();
        }
    }

    private int exposed(List<Happening> log) {
        Run run = run();
        List<Long> kept = earlySums(run.log, run.end);
        List<Long> got = earlySums(log, run.end);
        for (int count = 0; count < got.size(); count++) {
            if (count % 32 == 0 && !got.get(count).equals(kept.get(count))) {
                return count;
            }
        }
        if (got.size() <= run.end) {
            return got.size() - 1;
        }
        throw new NoSuchElementException();
    }

    public int without(int index) {
        checkIndex(index, run().log.size());
        List<Happening> log = new ArrayList<>(run().log);
        log.remove(index);
        return exposed(log);
    }

    public int with(int index, int value) {
        checkIndex(index, run().log.size());
        List<Happening> log = new ArrayList<>(run().log);
        Happening old = log.get(index);
        if (old.kind == 'x' || old.kind == 'p') {
            throw new UnsupportedOperationException();
        }
        log.set(index, new Happening(old.kind, old.count, old.target, value, null));
        return exposed(log);
    }

    public long sum() {
        return here().sum();
    }

    public float againShare() {
        run();
        if (redone + fresh == 0) {
            throw new ArithmeticException();
        }
        return (float) redone / (float) (redone + fresh);
    }

    public double meanDistance() {
        if (run().snapshots.size() == 1) {
            throw new ArithmeticException();
        }
        return (double) run().snapshots.last() / (double) (run().snapshots.size() - 1);
    }

    public boolean isSound() {
        run();
        return true;
    }

    int runCount() {
        return runs.size();
    }

    /** What can be asked of the present moment without a number. */
    static List<String> looks() {
        return Arrays.asList("now", "end", "present", "outputs", "clock", "console", "snapshots", "pages", "again",
            "events", "sum", "isSound");
    }
}
