import java.util.NoSuchElementException;

/** A machine of two processes that is debugged forward and back. The words are those of the document. */
public final class Rewinder {
    private static final int CELLS = 64;
    private static final int PAGES = 8;
    private static final int PAGE_CELLS = 8;
    private static final int REGISTERS = 4;
    private static final int FRAMES = 6;
    private static final int PLACES = 40;
    private static final int STEPS = 400;
    private static final int LEAP = 60;
    private static final int RUNS = 5;
    private static final int BREAKS = 8;
    private static final int PASSES = 99;
    private static final int NUMBER = 999;
    private static final int SUM_SPAN = 32;
    private static final int SNAPSHOT_SPAN = 16;
    private static final int YOUNG = 64;
    private static final int OLD = 256;
    // At 400 steps the thinning leaves 4 young ones, 3 old ones and the one at 0.
    private static final int SNAPSHOTS = 8;
    // An object is used for 512 calls, and a call makes one event at most.
    private static final int EVENTS = 512;

    private final Instruction[] added = new Instruction[PLACES];
    private int addedCount;
    private int second = -1;
    private final Run[] runs = new Run[RUNS];
    private int runCount;
    private int selected;
    private final Cursor here;
    private final Cursor scout;
    private final Cursor rival;
    private final Breaks breaks = new Breaks();
    private final Trace trace = new Trace();
    private int stepsAgain;
    private int stepsNew;

    public Rewinder() {
        for (int i = 0; i < RUNS; i++) {
            runs[i] = new Run();
        }
        here = new Cursor(runs[0]);
        scout = new Cursor(runs[0]);
        rival = new Cursor(runs[0]);
    }

    // ---- code and runs ----

    public int add(char letter, int a, int b, int c) throws IllegalArgumentException, IllegalStateException {
        needInstruction(letter, a, b, c);
        if (addedCount >= PLACES) {
            throw new IllegalStateException("there are 40 instructions");
        }
        added[addedCount] = new Instruction(letter, a, b, c);
        addedCount++;
        return addedCount - 1;
    }

    public int setSecond(int place) throws IllegalArgumentException {
        if (place < -1 || place > PLACES) {
            throw new IllegalArgumentException("no such place");
        }
        int before = second;
        second = place;
        return before;
    }

    public int begin() {
        Run run = runs[0];
        here.state.start(added, addedCount, second);
        run.start(here.state);
        here.standAtEnd(run);
        runCount = 1;
        selected = 0;
        breaks.removeAll();
        stepsAgain = 0;
        stepsNew = 0;
        return addedCount;
    }

    public int instructions() {
        return addedCount;
    }

    public int branch() throws IllegalStateException, UnsupportedOperationException {
        needRun();
        if (runCount >= RUNS) {
            throw new UnsupportedOperationException("there are 5 runs");
        }
        Run run = runs[runCount];
        run.copyUpTo(here.run, here.moment);
        here.standAtEnd(run);
        selected = runCount;
        runCount++;
        return selected;
    }

    public int select(int run) throws IllegalStateException, IndexOutOfBoundsException {
        needRun();
        needRunNumber(run);
        int before = selected;
        selected = run;
        here.load(runs[run], runs[run].snapshotCount - 1);
        here.doEvents();
        travel(here.run.end);
        return before;
    }

    public int difference(int run) throws IllegalStateException, IndexOutOfBoundsException, NoSuchElementException {
        needRun();
        needRunNumber(run);
        int last = Math.min(here.run.end, runs[run].end);
        scout.startOver(here.run);
        rival.startOver(runs[run]);
        for (int moment = 0; moment <= last; moment++) {
            if (scout.state.checksum() != rival.state.checksum()) {
                return moment;
            }
            scout.advance();
            rival.advance();
        }
        throw new NoSuchElementException("the runs do not differ");
    }

    // ---- forward and back ----

    public int forward(int steps) throws IllegalStateException, IllegalArgumentException {
        needRun();
        if (steps < 1 || steps > LEAP) {
            throw new IllegalArgumentException("not 1 to 60 steps");
        }
        int target = here.moment + steps;
        int known = Math.min(target, here.run.end);
        travel(known);
        for (int left = target - known; left > 0; left--) {
            if (!doNewStep()) {
                break;
            }
        }
        return here.moment;
    }

    public int back(int steps) throws IllegalStateException, IllegalArgumentException {
        needRun();
        if (steps < 1 || steps > STEPS) {
            throw new IllegalArgumentException("not 1 to 400 steps");
        }
        travel(Math.max(0, here.moment - steps));
        return here.moment;
    }

    public int go(int moment) throws IllegalStateException, IndexOutOfBoundsException {
        needRun();
        if (moment < 0 || moment > here.run.end) {
            throw new IndexOutOfBoundsException("no such moment");
        }
        int before = here.moment;
        travel(moment);
        return before;
    }

    public char goOn() throws IllegalStateException {
        needRun();
        countBreaks();
        if (leap(breaks)) {
            return 'b';
        }
        return here.state.isEnded() ? 'e' : 'l';
    }

    public char goBack() throws IllegalStateException {
        needRun();
        breaks.clearCounts();
        int moment = lastAhead(breaks);
        travel(Math.max(0, moment));
        return moment < 0 ? 's' : 'b';
    }

    public int next() throws IllegalStateException {
        needRun();
        leap(new FrameGoal(here.state.active, here.state.activeProcess().depth, true));
        return here.moment;
    }

    public int finish() throws IllegalStateException, UnsupportedOperationException {
        needRun();
        needFrame();
        leap(new FrameGoal(here.state.active, here.state.activeProcess().depth - 1, false));
        return here.moment;
    }

    public int backNext() throws IllegalStateException, NoSuchElementException {
        needRun();
        int moment = lastAhead(new FrameGoal(here.state.active, here.state.activeProcess().depth, true));
        if (moment < 0) {
            throw new NoSuchElementException("no such moment ahead");
        }
        travel(moment);
        return moment;
    }

    public int backFinish() throws IllegalStateException, UnsupportedOperationException {
        needRun();
        needFrame();
        int moment = lastAhead(new FrameGoal(here.state.active, here.state.activeProcess().depth - 1, false));
        travel(Math.max(0, moment));
        return here.moment;
    }

    // ---- events ----

    public int feed(int value) throws IllegalStateException, UnsupportedOperationException {
        needRun();
        needEnd();
        keep(new Event('f', here.moment, 0, value, null));
        return here.state.fed.size();
    }

    public int tick(int value) throws IllegalStateException, UnsupportedOperationException {
        needRun();
        needEnd();
        int before = here.state.time;
        keep(new Event('t', here.moment, 0, value, null));
        return before;
    }

    public int swap() throws IllegalStateException, UnsupportedOperationException {
        needRun();
        needEnd();
        keep(new Event('x', here.moment, 0, 0, null));
        return here.state.active;
    }

    public int change(int cell, int value)
            throws IllegalStateException, IndexOutOfBoundsException, UnsupportedOperationException {
        needRun();
        needCell(cell);
        needEnd();
        int before = here.state.cells[cell];
        keep(new Event('m', here.moment, cell, value, null));
        return before;
    }

    public char patch(int place, char letter, int a, int b, int c)
            throws IllegalStateException, IndexOutOfBoundsException, IllegalArgumentException,
            UnsupportedOperationException {
        needRun();
        Instruction before = here.state.instructionAt(place);
        if (before == null) {
            throw new IndexOutOfBoundsException("no such instruction");
        }
        needInstruction(letter, a, b, c);
        needEnd();
        keep(new Event('p', here.moment, place, 0, new Instruction(letter, a, b, c)));
        return before.letter;
    }

    public int events() throws IllegalStateException {
        needRun();
        return here.run.eventCount;
    }

    public char kindOf(int index) throws IllegalStateException, IndexOutOfBoundsException {
        needRun();
        return needEvent(index).kind;
    }

    public int countOf(int index) throws IllegalStateException, IndexOutOfBoundsException {
        needRun();
        return needEvent(index).count;
    }

    public int without(int index) throws IllegalStateException, IndexOutOfBoundsException, NoSuchElementException {
        needRun();
        needEvent(index);
        scout.load(here.run, 0);
        scout.leaveOut(index);
        return foundOut();
    }

    public int with(int index, int value)
            throws IllegalStateException, IndexOutOfBoundsException, UnsupportedOperationException,
            NoSuchElementException {
        needRun();
        Event event = needEvent(index);
        if (event.kind == 'x' || event.kind == 'p') {
            throw new UnsupportedOperationException("the event has no number");
        }
        scout.load(here.run, 0);
        scout.replaceValue(index, value);
        return foundOut();
    }

    // ---- breaks ----

    public int addBreak(int place, int register, int value, int passes)
            throws IllegalStateException, IllegalArgumentException, UnsupportedOperationException {
        needRun();
        if (place < 0 || place >= PLACES || register < -1 || register >= REGISTERS || passes < 0 || passes > PASSES) {
            throw new IllegalArgumentException("a number is out of range");
        }
        if (breaks.isFull()) {
            throw new UnsupportedOperationException("8 breaks were added");
        }
        return breaks.append(place, register, value, passes);
    }

    public int removeBreak(int index) throws IllegalStateException, NoSuchElementException {
        needRun();
        needBreak(index);
        breaks.drop(index);
        return breaks.left();
    }

    public int met(int index) throws IllegalStateException, NoSuchElementException {
        needRun();
        needBreak(index);
        countBreaks();
        return breaks.metCount(index);
    }

    // ---- the present state ----

    public int now() throws IllegalStateException {
        needRun();
        return here.moment;
    }

    public int end() throws IllegalStateException {
        needRun();
        return here.run.end;
    }

    public int present() throws IllegalStateException {
        needRun();
        return here.state.active;
    }

    public boolean isOver(int process) throws IllegalStateException, IndexOutOfBoundsException {
        needRun();
        return processAt(process).over;
    }

    public int place(int process) throws IllegalStateException, IndexOutOfBoundsException {
        needRun();
        return processAt(process).at;
    }

    public int register(int process, int register) throws IllegalStateException, IndexOutOfBoundsException {
        needRun();
        Process owner = processAt(process);
        if (!isRegister(register)) {
            throw new IndexOutOfBoundsException("no such register");
        }
        return owner.read(register);
    }

    public int frames(int process) throws IllegalStateException, IndexOutOfBoundsException {
        needRun();
        return processAt(process).depth;
    }

    public int returnsTo(int process, int frame)
            throws IllegalStateException, IndexOutOfBoundsException, NoSuchElementException {
        needRun();
        Process owner = processAt(process);
        if (frame < 0 || frame >= owner.depth) {
            throw new NoSuchElementException("no such frame");
        }
        return owner.returnOf(frame);
    }

    public int cell(int cell) throws IllegalStateException, IndexOutOfBoundsException {
        needRun();
        needCell(cell);
        return here.state.cells[cell];
    }

    public int outputs() throws IllegalStateException {
        needRun();
        return here.state.put.size();
    }

    public int outputAt(int index) throws IllegalStateException, IndexOutOfBoundsException {
        needRun();
        if (index < 0 || index >= here.state.put.size()) {
            throw new IndexOutOfBoundsException("no such number");
        }
        return here.state.put.at(index);
    }

    public int clock() throws IllegalStateException {
        needRun();
        return here.state.time;
    }

    public int console() throws IllegalStateException {
        needRun();
        return here.state.fed.size();
    }

    public long sum() throws IllegalStateException {
        needRun();
        return here.state.checksum();
    }

    public boolean isSound() throws IllegalStateException {
        needRun();
        traceToHere();
        return scout.state.checksum() == here.state.checksum() && trace.hasGiven(here.state.cells);
    }

    // ---- writes and slices ----

    public int lastWrite(int cell) throws IllegalStateException, IndexOutOfBoundsException, NoSuchElementException {
        needRun();
        needCell(cell);
        return lastStepOn(cell) - 1;
    }

    public int writerOf(int cell) throws IllegalStateException, IndexOutOfBoundsException, NoSuchElementException {
        needRun();
        needCell(cell);
        return here.run.writers[lastStepOn(cell)];
    }

    public int callerOf(int cell) throws IllegalStateException, IndexOutOfBoundsException, NoSuchElementException {
        needRun();
        needCell(cell);
        return here.run.callers[lastStepOn(cell)];
    }

    public int writes(int cell) throws IllegalStateException, IndexOutOfBoundsException {
        needRun();
        needCell(cell);
        int count = 0;
        for (int step = 1; step <= here.moment && step <= STEPS; step++) {
            if (here.run.written[step] == cell) {
                count++;
            }
        }
        return count;
    }

    public int firstAbove(int cell, int value)
            throws IllegalStateException, IndexOutOfBoundsException, NoSuchElementException {
        needRun();
        needCell(cell);
        scout.startOver(here.run);
        for (int moment = 0; moment <= here.moment; moment++) {
            if (scout.state.cells[cell] > value) {
                return moment;
            }
            scout.advance();
        }
        throw new NoSuchElementException("the cell was never greater");
    }

    public int slice(int cell) throws IllegalStateException, IndexOutOfBoundsException {
        needRun();
        needCell(cell);
        traceToHere();
        return trace.stepsBehind(cell);
    }

    public boolean hangsOn(int cell, int step) throws IllegalStateException, IndexOutOfBoundsException {
        needRun();
        needCell(cell);
        traceToHere();
        return trace.isBehind(cell, step);
    }

    // ---- snapshots and counts ----

    public int snapshots() throws IllegalStateException {
        needRun();
        return here.run.snapshotCount;
    }

    public int snapshotAt(int index) throws IllegalStateException, IndexOutOfBoundsException {
        needRun();
        if (index < 0 || index >= here.run.snapshotCount) {
            throw new IndexOutOfBoundsException("no such snapshot");
        }
        return here.run.snapshotCounts[index];
    }

    public int pages() throws IllegalStateException {
        needRun();
        int count = PAGES;
        for (int i = 1; i < here.run.snapshotCount; i++) {
            count += here.run.pagesSetBetween(here.run.snapshotCounts[i - 1], here.run.snapshotCounts[i]);
        }
        return count;
    }

    public int again() throws IllegalStateException {
        needRun();
        return stepsAgain;
    }

    public float againShare() throws IllegalStateException, ArithmeticException {
        needRun();
        int all = stepsAgain + stepsNew;
        if (all == 0) {
            throw new ArithmeticException("there were no steps");
        }
        return (float) stepsAgain / (float) all;
    }

    public double meanDistance() throws IllegalStateException, ArithmeticException {
        needRun();
        int distances = here.run.snapshotCount - 1;
        if (distances <= 0) {
            throw new ArithmeticException("there is just one snapshot");
        }
        return (double) here.run.snapshotCounts[distances] / (double) distances;
    }

    // ---- what the calls must find ----

    private void needRun() {
        if (runCount == 0) {
            throw new IllegalStateException("no run was begun");
        }
    }

    private void needEnd() {
        if (here.moment != here.run.end) {
            throw new UnsupportedOperationException("not at the end of the run");
        }
    }

    private void needFrame() {
        if (here.state.activeProcess().depth == 0) {
            throw new UnsupportedOperationException("the process has no frame");
        }
    }

    private void needRunNumber(int run) {
        if (run < 0 || run >= runCount) {
            throw new IndexOutOfBoundsException("no such run");
        }
    }

    private void needBreak(int index) {
        if (!breaks.has(index)) {
            throw new NoSuchElementException("no such break");
        }
    }

    private Event needEvent(int index) {
        Event found = here.run.eventAt(index);
        if (found == null) {
            throw new IndexOutOfBoundsException("no such event");
        }
        return found;
    }

    private Process processAt(int process) {
        if (process < 0 || process > 1) {
            throw new IndexOutOfBoundsException("no such process");
        }
        return here.state.process(process);
    }

    private int lastStepOn(int cell) {
        for (int step = Math.min(here.moment, STEPS); step > 0; step--) {
            if (here.run.written[step] == cell) {
                return step;
            }
        }
        throw new NoSuchElementException("no step was an 's' of the cell");
    }

    private static void needCell(int cell) {
        if (cell < 0 || cell >= CELLS) {
            throw new IndexOutOfBoundsException("no such cell");
        }
    }

    private static void needInstruction(char letter, int a, int b, int c) {
        if (!isInstruction(letter, a, b, c)) {
            throw new IllegalArgumentException("no such instruction");
        }
    }

    private static boolean isInstruction(int letter, int a, int b, int c) {
        switch (letter) {
            case 'k':
                return isRegister(a) && b >= -NUMBER && b <= NUMBER;
            case '+':
            case '-':
            case '*':
            case '<':
                return isRegister(a) && isRegister(b) && isRegister(c);
            case 'l':
            case 's':
                return isRegister(a) && isRegister(b);
            case 'j':
                return isRegister(a) && isTarget(b);
            case 'c':
                return isTarget(b);
            case 'i':
            case 'o':
            case 't':
                return isRegister(a);
            case 'r':
            case 'y':
                return true;
            default:
                return false;
        }
    }

    private static boolean isRegister(int number) {
        return number >= 0 && number < REGISTERS;
    }

    private static boolean isTarget(int place) {
        return place >= 0 && place <= PLACES;
    }

    // ---- how one moves ----

    private boolean doNewStep() {
        Run run = here.run;
        if (run.end >= STEPS || here.state.isEnded()) {
            return false;
        }
        run.noteStep(here.state);
        here.doStep();
        run.endWith(here.state);
        stepsNew++;
        return true;
    }

    private void travel(int moment) {
        int index = here.run.lastSnapshotUpTo(moment);
        if (moment < here.moment || here.run.snapshotCounts[index] > here.moment) {
            here.load(here.run, index);
            here.doEvents();
        }
        for (int left = moment - here.moment; left > 0; left--) {
            here.advance();
            stepsAgain++;
        }
    }

    /** Goes forward by one step to 60, and tells whether it came to a moment of the goal. */
    private boolean leap(Goal goal) {
        int limit = Math.min(STEPS, here.moment + LEAP);
        int known = Math.min(limit, here.run.end);
        scout.copyFrom(here);
        for (int moment = here.moment + 1; moment <= known; moment++) {
            scout.advance();
            if (goal.isAt(scout.state)) {
                travel(moment);
                return true;
            }
        }
        travel(known);
        for (int left = limit - known; left > 0; left--) {
            if (!doNewStep()) {
                return false;
            }
            if (goal.isAt(here.state)) {
                return true;
            }
        }
        return false;
    }

    /** The last moment of the goal ahead of the present one, or -1. */
    private int lastAhead(Goal goal) {
        int found = -1;
        scout.startOver(here.run);
        for (int moment = 0; moment < here.moment; moment++) {
            if (goal.isAt(scout.state)) {
                found = moment;
            }
            scout.advance();
        }
        return found;
    }

    private void countBreaks() {
        breaks.clearCounts();
        scout.startOver(here.run);
        for (int moment = 0; moment <= here.moment; moment++) {
            breaks.isAt(scout.state);
            scout.advance();
        }
    }

    private void traceToHere() {
        trace.clear();
        scout.startOver(here.run);
        trace.noteEvents(here.run, 0, scout.nextEvent);
        for (int step = 1; step <= here.moment; step++) {
            int event = scout.nextEvent;
            trace.noteStep(scout.state, step);
            scout.advance();
            trace.noteEvents(here.run, event, scout.nextEvent);
        }
    }

    private void keep(Event event) {
        if (here.run.append(event)) {
            here.doEvents();
        }
    }

    /** Does the run of the scout, and answers the count at which it is found out. */
    private int foundOut() {
        Run run = here.run;
        for (int count = 0; count <= run.end; count++) {
            if (count > 0 && !scout.doStep()) {
                return count - 1;
            }
            if (count % SUM_SPAN == 0 && scout.state.checksum() != run.sumAt(count)) {
                return count;
            }
            scout.doEvents();
        }
        throw new NoSuchElementException("the run is not found out");
    }

    // ---- what a run is made of ----

    private static final class Instruction {
        final char letter;
        final int a;
        final int b;
        final int c;

        Instruction(char letter, int a, int b, int c) {
            this.letter = letter;
            this.a = a;
            this.b = b;
            this.c = c;
        }
    }

    private static final class Event {
        final char kind;
        final int count;
        final int target;
        final int value;
        final Instruction code;

        Event(char kind, int count, int target, int value, Instruction code) {
            this.kind = kind;
            this.count = count;
            this.target = target;
            this.value = value;
            this.code = code;
        }
    }

    /** Numbers in a row that are put behind and taken ahead. */
    private static final class Numbers {
        private final int[] items = new int[EVENTS];
        private int from;
        private int until;

        void clear() {
            from = 0;
            until = 0;
        }

        void copyFrom(Numbers other) {
            from = other.from;
            until = other.until;
            System.arraycopy(other.items, from, items, from, until - from);
        }

        int size() {
            return until - from;
        }

        int at(int index) {
            int spot = from + index;
            return spot >= from && spot < until ? items[spot] : -1;
        }

        void append(int value) {
            if (until < items.length) {
                items[until] = value;
                until++;
            }
        }

        int takeFirst() {
            if (from >= until) {
                return -1;
            }
            from++;
            return items[from - 1];
        }

        long addTo(long sum) {
            long grown = 31 * sum + size();
            for (int i = from; i < until; i++) {
                grown = 31 * grown + items[i];
            }
            return grown;
        }
    }

    private static final class Process {
        private final int[] registers = new int[REGISTERS];
        private final int[] returns = new int[FRAMES];
        private int depth;
        private int at;
        private boolean over;

        void start(int place, int codeSize) {
            for (int i = 0; i < REGISTERS; i++) {
                registers[i] = 0;
            }
            depth = 0;
            at = Math.max(0, place);
            over = place < 0 || place >= codeSize;
        }

        void copyFrom(Process other) {
            System.arraycopy(other.registers, 0, registers, 0, REGISTERS);
            System.arraycopy(other.returns, 0, returns, 0, FRAMES);
            depth = other.depth;
            at = other.at;
            over = other.over;
        }

        int read(int register) {
            return register >= 0 && register < REGISTERS ? registers[register] : 0;
        }

        void write(int register, int value) {
            if (register >= 0 && register < REGISTERS) {
                registers[register] = value;
            }
        }

        void comeTo(int place, int codeSize) {
            at = place;
            if (place >= codeSize) {
                over = true;
            }
        }

        /** Makes a frame and answers where the process goes on: here if it is over. */
        int call(int place) {
            if (depth >= FRAMES) {
                over = true;
                return at;
            }
            returns[depth] = at + 1;
            depth++;
            return place;
        }

        /** Drops the last frame and answers where the process goes on: here if it is over. */
        int leave() {
            if (depth <= 0) {
                over = true;
                return at;
            }
            depth--;
            return returns[depth];
        }

        /** Where a frame returns, 0 for the last one; -1 without such a frame. */
        int returnOf(int frame) {
            return frame >= 0 && frame < depth ? returns[depth - 1 - frame] : -1;
        }

        long addTo(long sum) {
            long grown = sum;
            for (int i = 0; i < REGISTERS; i++) {
                grown = 31 * grown + registers[i];
            }
            grown = 31 * grown + at;
            grown = 31 * grown + (over ? 1 : 0);
            grown = 31 * grown + depth;
            for (int i = 0; i < depth; i++) {
                grown = 31 * grown + returnOf(i);
            }
            return grown;
        }
    }

    /** All that a moment is; the code belongs to it because patches come and go with the moments. */
    private static final class State {
        private final int[] cells = new int[CELLS];
        private final Process first = new Process();
        private final Process second = new Process();
        private final Numbers fed = new Numbers();
        private final Numbers put = new Numbers();
        private final Instruction[] code = new Instruction[PLACES];
        private int codeSize;
        private int active;
        private int time;

        void start(Instruction[] instructions, int count, int secondPlace) {
            for (int i = 0; i < CELLS; i++) {
                cells[i] = 0;
            }
            takeCode(instructions, count);
            first.start(0, count);
            second.start(secondPlace, count);
            fed.clear();
            put.clear();
            active = 0;
            time = 0;
        }

        void copyFrom(State state) {
            System.arraycopy(state.cells, 0, cells, 0, CELLS);
            first.copyFrom(state.first);
            second.copyFrom(state.second);
            fed.copyFrom(state.fed);
            put.copyFrom(state.put);
            takeCode(state.code, state.codeSize);
            active = state.active;
            time = state.time;
        }

        private void takeCode(Instruction[] instructions, int count) {
            for (int i = 0; i < PLACES && i < instructions.length; i++) {
                code[i] = instructions[i];
            }
            codeSize = count;
        }

        Process process(int number) {
            return number == 0 ? first : second;
        }

        Process activeProcess() {
            return process(active);
        }

        boolean isEnded() {
            return first.over && second.over;
        }

        Instruction instructionAt(int place) {
            return place >= 0 && place < codeSize && place < PLACES ? code[place] : null;
        }

        /** The instruction of the next step, or null if both processes are over. */
        Instruction upcoming() {
            Process process = activeProcess();
            return process.over ? null : instructionAt(process.at);
        }

        /** The cell whose number a register has: the low bits, as the cells are a power of two. */
        static int cellOf(int number) {
            return number & (CELLS - 1);
        }

        void switchOver() {
            if (!process(1 - active).over) {
                active = 1 - active;
            }
        }

        /** Does the next step and tells whether there is one. */
        boolean step() {
            Process process = activeProcess();
            Instruction todo = upcoming();
            if (todo == null) {
                return false;
            }
            int next = process.at + 1;
            switch ((int) todo.letter) {
                case 's':
                    cells[cellOf(process.read(todo.a))] = process.read(todo.b);
                    break;
                case 'o':
                    put.append(process.read(todo.a));
                    break;
                case 'y':
                    switchOver();
                    break;
                case 'j':
                    next = process.read(todo.a) != 0 ? todo.b : next;
                    break;
                case 'c':
                    next = process.call(todo.b);
                    break;
                case 'r':
                    next = process.leave();
                    break;
                default:
                    process.write(todo.a, valueOf(todo, process));
                    break;
            }
            process.comeTo(next, codeSize);
            if (activeProcess().over) {
                switchOver();
            }
            return true;
        }

        /** What an instruction puts into its register. */
        int valueOf(Instruction todo, Process process) {
            int left = process.read(todo.b);
            int right = process.read(todo.c);
            switch ((int) todo.letter) {
                case 'k':
                    return todo.b;
                case '+':
                    return left + right;
                case '-':
                    return left - right;
                case '*':
                    return left * right;
                case '<':
                    return left < right ? 1 : 0;
                case 'l':
                    return cells[cellOf(left)];
                case 'i':
                    return fed.takeFirst();
                default:
                    return time;
            }
        }

        void apply(Event event, int value) {
            switch ((int) event.kind) {
                case 'f':
                    fed.append(value);
                    break;
                case 't':
                    time = value;
                    break;
                case 'x':
                    switchOver();
                    break;
                case 'm':
                    cells[cellOf(event.target)] = value;
                    break;
                default:
                    if (event.code != null && instructionAt(event.target) != null) {
                        code[event.target] = event.code;
                    }
                    break;
            }
        }

        long checksum() {
            long sum = 7;
            for (int i = 0; i < CELLS; i++) {
                sum = 31 * sum + cells[i];
            }
            sum = first.addTo(sum);
            sum = second.addTo(sum);
            sum = 31 * sum + active;
            sum = 31 * sum + time;
            sum = fed.addTo(sum);
            return put.addTo(sum);
        }
    }

    /** A run: its log, its sums, its snapshots, and for each step the cell that it wrote, if one, by whom. */
    private static final class Run {
        private final Event[] log = new Event[EVENTS];
        private int eventCount;
        private int end;
        private final long[] sums = new long[STEPS / SUM_SPAN + 1];
        private final State[] snapshots = new State[SNAPSHOTS];
        private final int[] snapshotCounts = new int[SNAPSHOTS];
        private int snapshotCount;
        private final int[] written = new int[STEPS + 1];
        private final int[] writers = new int[STEPS + 1];
        private final int[] callers = new int[STEPS + 1];

        Run() {
            for (int i = 0; i < SNAPSHOTS; i++) {
                snapshots[i] = new State();
            }
        }

        void start(State state) {
            eventCount = 0;
            end = 0;
            sums[0] = state.checksum();
            snapshots[0].copyFrom(state);
            snapshotCounts[0] = 0;
            snapshotCount = 1;
        }

        void copyUpTo(Run run, int moment) {
            end = moment;
            System.arraycopy(run.sums, 0, sums, 0, sums.length);
            System.arraycopy(run.written, 0, written, 0, written.length);
            System.arraycopy(run.writers, 0, writers, 0, writers.length);
            System.arraycopy(run.callers, 0, callers, 0, callers.length);
            eventCount = run.firstEventFrom(moment + 1);
            for (int i = 0; i < eventCount && i < EVENTS; i++) {
                log[i] = run.log[i];
            }
            snapshotCount = 0;
            for (int i = 0; i < run.snapshotCount && run.snapshotCounts[i] <= moment; i++) {
                snapshots[i].copyFrom(run.snapshots[i]);
                snapshotCounts[i] = run.snapshotCounts[i];
                snapshotCount++;
            }
        }

        /** An event of the log, or null. */
        Event eventAt(int index) {
            return index >= 0 && index < eventCount && index < EVENTS ? log[index] : null;
        }

        /** The index of the first event at a count or behind it, or the number of events. */
        int firstEventFrom(int count) {
            for (int i = 0; i < eventCount; i++) {
                Event event = eventAt(i);
                if (event != null && event.count >= count) {
                    return i;
                }
            }
            return eventCount;
        }

        boolean append(Event event) {
            if (eventCount >= EVENTS) {
                return false;
            }
            log[eventCount] = event;
            eventCount++;
            return true;
        }

        long sumAt(int count) {
            int index = count / SUM_SPAN;
            return index >= 0 && index < sums.length ? sums[index] : 0;
        }

        /** Notes the next step, ahead of it. */
        void noteStep(State state) {
            int step = end + 1;
            Process process = state.activeProcess();
            Instruction todo = state.upcoming();
            if (todo == null || step > STEPS) {
                return;
            }
            written[step] = todo.letter == 's' ? State.cellOf(process.read(todo.a)) : -1;
            writers[step] = process.at;
            callers[step] = process.returnOf(0);
        }

        /** Takes in the state behind a new step. */
        void endWith(State state) {
            end++;
            if (end % SNAPSHOT_SPAN == 0) {
                thin();
                takeSnapshot(state);
            }
            if (end % SUM_SPAN == 0 && end / SUM_SPAN < sums.length) {
                sums[end / SUM_SPAN] = state.checksum();
            }
        }

        private void takeSnapshot(State state) {
            if (snapshotCount < SNAPSHOTS) {
                snapshots[snapshotCount].copyFrom(state);
                snapshotCounts[snapshotCount] = end;
                snapshotCount++;
            }
        }

        private void thin() {
            int kept = 0;
            for (int i = 0; i < snapshotCount; i++) {
                if (isKept(snapshotCounts[i])) {
                    // Exchanged, not overwritten: the state of one that goes is used for a later one.
                    State state = snapshots[kept];
                    snapshots[kept] = snapshots[i];
                    snapshots[i] = state;
                    snapshotCounts[kept] = snapshotCounts[i];
                    kept++;
                }
            }
            snapshotCount = kept;
        }

        private boolean isKept(int count) {
            int age = end - count;
            return count == 0 || age < YOUNG || age < OLD && count % YOUNG == 0;
        }

        int lastSnapshotUpTo(int moment) {
            int found = 0;
            for (int i = 0; i < snapshotCount; i++) {
                if (snapshotCounts[i] <= moment) {
                    found = i;
                }
            }
            return found;
        }

        int pagesSetBetween(int from, int until) {
            int pages = 0;
            for (int step = from + 1; step <= until && step <= STEPS; step++) {
                if (written[step] >= 0) {
                    pages |= 1 << (written[step] / PAGE_CELLS);
                }
            }
            for (int i = 0; i < eventCount; i++) {
                Event event = eventAt(i);
                // A snapshot stands ahead of the events of its count.
                if (event != null && event.kind == 'm' && event.count >= from && event.count < until) {
                    pages |= 1 << (event.target / PAGE_CELLS);
                }
            }
            return Integer.bitCount(pages);
        }
    }

    /** A place in a run, with the state there. */
    private static final class Cursor {
        private final State state = new State();
        private Run run;
        private int moment;
        private int nextEvent;
        private int oddEvent = -1;
        private boolean oddIsOut;
        private int oddValue;

        Cursor(Run run) {
            this.run = run;
        }

        void copyFrom(Cursor cursor) {
            run = cursor.run;
            state.copyFrom(cursor.state);
            moment = cursor.moment;
            nextEvent = cursor.nextEvent;
            oddEvent = -1;
        }

        void standAtEnd(Run newRun) {
            run = newRun;
            moment = newRun.end;
            nextEvent = newRun.eventCount;
        }

        /** Stands at a snapshot, ahead of the events of its count. */
        void load(Run newRun, int snapshot) {
            if (snapshot < 0 || snapshot >= newRun.snapshotCount) {
                return;
            }
            run = newRun;
            state.copyFrom(newRun.snapshots[snapshot]);
            moment = newRun.snapshotCounts[snapshot];
            nextEvent = newRun.firstEventFrom(moment);
            oddEvent = -1;
        }

        void startOver(Run newRun) {
            load(newRun, 0);
            doEvents();
        }

        void leaveOut(int event) {
            oddEvent = event;
            oddIsOut = true;
        }

        void replaceValue(int event, int value) {
            oddEvent = event;
            oddIsOut = false;
            oddValue = value;
        }

        void doEvents() {
            for (; nextEvent < run.eventCount; nextEvent++) {
                Event event = run.eventAt(nextEvent);
                if (event == null || event.count > moment) {
                    return;
                }
                if (nextEvent != oddEvent) {
                    state.apply(event, event.value);
                } else if (!oddIsOut) {
                    state.apply(event, oddValue);
                }
            }
        }

        boolean doStep() {
            moment++;
            return state.step();
        }

        void advance() {
            moment++;
            state.step();
            doEvents();
        }
    }

    // ---- where one goes to ----

    private abstract static class Goal {
        abstract boolean isAt(State state);
    }

    /**
     * That a process has few frames. Going back can ask the same as going forward, though it must not stop
     * where the process is over: ahead of a moment at which a process is the present one it never was over.
     */
    private static final class FrameGoal extends Goal {
        private final int process;
        private final int mostFrames;
        private final boolean mustBeActive;

        FrameGoal(int process, int mostFrames, boolean mustBeActive) {
            this.process = process;
            this.mostFrames = mostFrames;
            this.mustBeActive = mustBeActive;
        }

        boolean isAt(State state) {
            Process watched = state.process(process);
            boolean hasFew = watched.depth <= mostFrames;
            if (mustBeActive) {
                return hasFew && (watched.over || state.active == process);
            }
            return hasFew || watched.over;
        }
    }

    private static final class Breaks extends Goal {
        private final int[] places = new int[BREAKS];
        private final int[] registers = new int[BREAKS];
        private final int[] values = new int[BREAKS];
        private final int[] passes = new int[BREAKS];
        private final int[] metCounts = new int[BREAKS];
        private final boolean[] stands = new boolean[BREAKS];
        private int addedCount;

        void removeAll() {
            for (int i = 0; i < BREAKS; i++) {
                stands[i] = false;
            }
            addedCount = 0;
        }

        boolean isFull() {
            return addedCount >= BREAKS;
        }

        boolean has(int index) {
            return index >= 0 && index < BREAKS && stands[index];
        }

        int append(int place, int register, int value, int passCount) {
            if (addedCount < BREAKS) {
                places[addedCount] = place;
                registers[addedCount] = register;
                values[addedCount] = value;
                passes[addedCount] = passCount;
                stands[addedCount] = true;
                addedCount++;
            }
            return addedCount - 1;
        }

        void drop(int index) {
            if (has(index)) {
                stands[index] = false;
            }
        }

        int left() {
            int count = 0;
            for (int i = 0; i < BREAKS; i++) {
                if (stands[i]) {
                    count++;
                }
            }
            return count;
        }

        int metCount(int index) {
            return has(index) ? metCounts[index] : 0;
        }

        void clearCounts() {
            for (int i = 0; i < BREAKS; i++) {
                metCounts[i] = 0;
            }
        }

        /** Counts what is met there: all moments from 0 on must come here, each once. */
        boolean isAt(State state) {
            boolean holds = false;
            for (int i = 0; i < addedCount && i < BREAKS; i++) {
                if (stands[i] && isMetBy(i, state.activeProcess())) {
                    metCounts[i]++;
                    if (metCounts[i] > passes[i]) {
                        holds = true;
                    }
                }
            }
            return holds;
        }

        private boolean isMetBy(int index, Process process) {
            return index >= 0 && index < BREAKS && !process.over && process.at == places[index]
                && (registers[index] < 0 || process.read(registers[index]) == values[index]);
        }
    }

    /** What the steps and changes from the beginning on gave: on which steps all hangs, and the cells. */
    private static final class Trace {
        private static final int WORDS = STEPS / 64 + 1;
        private static final int ROWS = CELLS + 2 * REGISTERS;

        private final long[][] behind = new long[ROWS][WORDS];
        private final long[] gathered = new long[WORDS];
        private final int[] given = new int[CELLS];

        void clear() {
            for (int row = 0; row < ROWS; row++) {
                clearRow(row);
            }
            for (int i = 0; i < CELLS; i++) {
                given[i] = 0;
            }
        }

        /** Takes in the next step of a state, ahead of it. */
        void noteStep(State state, int step) {
            Process process = state.activeProcess();
            Instruction todo = state.upcoming();
            if (todo == null || step > STEPS) {
                return;
            }
            int base = CELLS + state.active * REGISTERS;
            gatherStep(step);
            switch ((int) todo.letter) {
                case '+':
                case '-':
                case '*':
                case '<':
                    gather(base + todo.b);
                    gather(base + todo.c);
                    store(base + todo.a);
                    break;
                case 'l':
                    gather(base + todo.b);
                    gather(State.cellOf(process.read(todo.b)));
                    store(base + todo.a);
                    break;
                case 'k':
                case 'i':
                case 't':
                    store(base + todo.a);
                    break;
                case 's':
                    gather(base + todo.a);
                    gather(base + todo.b);
                    store(State.cellOf(process.read(todo.a)));
                    given[State.cellOf(process.read(todo.a))] = process.read(todo.b);
                    break;
                default:
                    break;
            }
        }

        void noteEvents(Run run, int from, int until) {
            for (int i = Math.max(0, from); i < until && i < run.eventCount; i++) {
                Event event = run.eventAt(i);
                if (event != null && event.kind == 'm') {
                    clearRow(event.target);
                    given[State.cellOf(event.target)] = event.value;
                }
            }
        }

        int stepsBehind(int cell) {
            int count = 0;
            for (int word = 0; word < WORDS; word++) {
                count += Long.bitCount(behind[State.cellOf(cell)][word]);
            }
            return count;
        }

        boolean isBehind(int cell, int step) {
            return step > 0 && step <= STEPS && (behind[State.cellOf(cell)][step / 64] >>> (step % 64) & 1) != 0;
        }

        boolean hasGiven(int[] cells) {
            for (int i = 0; i < CELLS && i < cells.length; i++) {
                if (given[i] != cells[i]) {
                    return false;
                }
            }
            return true;
        }

        private void clearRow(int row) {
            if (row >= 0 && row < ROWS) {
                for (int word = 0; word < WORDS; word++) {
                    behind[row][word] = 0;
                }
            }
        }

        private void gatherStep(int step) {
            for (int word = 0; word < WORDS; word++) {
                gathered[word] = word == step / 64 ? 1L << (step % 64) : 0;
            }
        }

        private void gather(int row) {
            if (row >= 0 && row < ROWS) {
                for (int word = 0; word < WORDS; word++) {
                    gathered[word] |= behind[row][word];
                }
            }
        }

        private void store(int row) {
            if (row >= 0 && row < ROWS) {
                for (int word = 0; word < WORDS; word++) {
                    behind[row][word] = gathered[word];
                }
            }
        }
    }
}
