/**
 * A program of lines on a small machine, gone through forward and backward. Going back is going
 * forward again from a state that was kept; ../shared/DOC.md says what each call promises.
 */
public final class TraceDebugger {
    public static final int NONE = -1;
    public static final int DONE = 0, BREAK = 1, WATCH = 2, END = 3, TRAP = 4, OUT = 5, BEGIN = 6;

    private static final int MOST_LINES = 80;
    private static final int CELLS = 64;
    private static final int MOST_FRAMES = 16;
    private static final int LOCALS = 8;
    private static final int MOST_OUTPUT = 200;
    private static final int LAST_TIME = 2000;
    private static final int MOST_KEPT = 8;
    private static final int LEAST_SPACING = 1, MOST_SPACING = 100;

    private static final int SET = 0, ADD = 1, SUB = 2, MUL = 3, DIV = 4, LOAD = 5, STORE = 6;
    private static final int JUMP = 7, TEST = 8, CALL = 9, RETURN = 10, PRINT = 11, HALT = 12;

    private final Program program = new Program();
    private final Machine machine = new Machine();
    private final State now = machine.now;
    private final History history;
    private final boolean[] watched = new boolean[CELLS];
    // Not part of a state: a TRAP leaves the time as it is, and going anywhere else forgets it.
    private boolean trapped;

    public TraceDebugger(int spacing) {
        history = new History(Math.max(LEAST_SPACING, Math.min(MOST_SPACING, spacing)));
    }

    public int line(int operation, int a, int b)
            throws IllegalArgumentException, IllegalStateException, UnsupportedOperationException {
        if (!Program.allows(operation, a, b)) throw new IllegalArgumentException();
        if (now.time != 0) throw new IllegalStateException();
        if (program.size == MOST_LINES) throw new UnsupportedOperationException();
        program.append(operation, a, b);
        history.restart(now);
        return program.size - 1;
    }

    public int poke(int cell, int v) throws IndexOutOfBoundsException, IllegalStateException {
        if (!isCell(cell)) throw new IndexOutOfBoundsException();
        if (now.time != 0) throw new IllegalStateException();
        int before = now.cells[cell];
        now.cells[cell] = v;
        history.restart(now);
        return before;
    }

    public boolean mark(int line, boolean on) throws IndexOutOfBoundsException {
        if (!program.has(line)) throw new IndexOutOfBoundsException();
        boolean other = program.marked[line] != on;
        program.marked[line] = on;
        return other;
    }

    public boolean watch(int cell, boolean on) throws IndexOutOfBoundsException {
        if (!isCell(cell)) throw new IndexOutOfBoundsException();
        boolean other = watched[cell] != on;
        watched[cell] = on;
        return other;
    }

    public int step() {
        int why = advance();
        return why == BREAK ? DONE : why;
    }

    public int next() {
        return advanceTillFramesAre(now.frames);
    }

    public int finish() {
        return advanceTillFramesAre(now.frames - 1);
    }

    public int go() {
        // There is always a frame, so that only a stop ends this.
        return advanceTillFramesAre(0);
    }

    public int back() {
        if (now.time == 0) {
            trapped = false;
            return BEGIN;
        }
        travelTo(now.time - 1);
        return DONE;
    }

    public int reverse() {
        int until = now.time - 1;
        int stop = 0;
        for (int i = history.latestUpTo(until); i >= 0 && stop == 0; i--) {
            stop = latestStop(i, until);
            until = history.states[i].time;
        }
        if (stop == 0) {
            travelTo(0);
            return BEGIN;
        }
        // The line before the stop is done once more, since it tells WATCH from BREAK.
        travelTo(stop - 1);
        return advance();
    }

    public int goTo(int time) throws IllegalArgumentException {
        if (time < 0 || time > LAST_TIME) throw new IllegalArgumentException();
        travelTo(time);
        return now.time;
    }

    public int local(int frame, int local) throws IndexOutOfBoundsException {
        if (!now.hasFrame(frame) || !isLocal(local)) throw new IndexOutOfBoundsException();
        return now.locals[(now.frames - 1 - frame) * LOCALS + local];
    }

    public int at(int frame) throws IndexOutOfBoundsException {
        if (!now.hasFrame(frame)) throw new IndexOutOfBoundsException();
        return now.lines[now.frames - 1 - frame];
    }

    public int cell(int cell) throws IndexOutOfBoundsException {
        if (!isCell(cell)) throw new IndexOutOfBoundsException();
        return now.cells[cell];
    }

    public int output(int i) throws IndexOutOfBoundsException {
        if (i < 0 || i >= now.printed) throw new IndexOutOfBoundsException();
        return machine.output[i];
    }

    public int kept(int i) throws IndexOutOfBoundsException {
        if (i < 0 || i >= history.size) throw new IndexOutOfBoundsException();
        return history.states[i].time;
    }

    public int told(int what) {
        switch (what) {
            case 0: return now.time;
            case 1: return now.frames;
            case 2: return now.printed;
            case 3: return history.size;
            case 4: return history.spacing;
            case 5: return program.size;
            case 6: return now.ended ? 1 : trapped ? 2 : 0;
            default: return NONE;
        }
    }

    public void clear() {
        program.empty();
        for (int i = 0; i < CELLS; i++) watched[i] = false;
        now.reset();
        history.restart(now);
        trapped = false;
    }

    private static boolean isCell(int number) {
        return number >= 0 && number < CELLS;
    }

    private static boolean isLocal(int number) {
        return number >= 0 && number < LOCALS;
    }

    /** Does one line if that can be done, and says why a call that goes on would stop; DONE if it would not. */
    private int advance() {
        if (trapped) return TRAP;
        if (now.ended) return END;
        if (now.time == LAST_TIME) return OUT;
        if (!machine.doLine(program)) {
            trapped = true;
            return TRAP;
        }
        history.arrive(now);
        if (now.ended) return END;
        if (machine.changed != NONE && watched[machine.changed]) return WATCH;
        return program.isMarked(now.lines[now.frames - 1]) ? BREAK : DONE;
    }

    private int advanceTillFramesAre(int most) {
        for (int n = 0; n <= LAST_TIME; n++) {
            int why = advance();
            if (why != DONE || now.frames <= most) return why;
        }
        return OUT;
    }

    /** Goes to a time, or to the last one before it that there is. */
    private void travelTo(int time) {
        int from = history.latestUpTo(time);
        if (time < now.time && from >= 0) now.copyFrom(history.states[from]);
        trapped = false;
        for (int n = now.time; n < time; n++) advance();
        trapped = false;
    }

    /** The latest time behind kept state i and not behind the time told at which go() stops; 0 if there is none. */
    private int latestStop(int i, int until) {
        now.copyFrom(history.states[i]);
        trapped = false;
        int stop = 0;
        for (int time = now.time + 1; time <= until; time++) {
            int why = advance();
            if (why == WATCH || why == BREAK) stop = time;
        }
        return stop;
    }

    private static final class Program {
        final int[] operations = new int[MOST_LINES];
        final int[] as = new int[MOST_LINES];
        final int[] bs = new int[MOST_LINES];
        final boolean[] marked = new boolean[MOST_LINES];
        int size;

        static boolean allows(int operation, int a, int b) {
            if (operation < SET || operation > HALT) return false;
            if (takesLocalA(operation) && !isLocal(a)) return false;
            if (operation >= ADD && operation <= STORE && !isLocal(b)) return false;
            return operation != CALL || b >= 0 && b <= LOCALS;
        }

        static boolean takesLocalA(int operation) {
            return operation <= STORE || operation == TEST || operation == RETURN || operation == PRINT;
        }

        boolean has(int line) {
            return line >= 0 && line < size;
        }

        boolean isMarked(int line) {
            return has(line) && marked[line];
        }

        void append(int operation, int a, int b) {
            operations[size] = operation;
            as[size] = a;
            bs[size] = b;
            size++;
        }

        void empty() {
            for (int i = 0; i < size; i++) marked[i] = false;
            size = 0;
        }
    }

    /** All that going on from one time depends on. */
    private static final class State {
        final int[] cells = new int[CELLS];
        final int[] locals = new int[MOST_FRAMES * LOCALS];
        final int[] lines = new int[MOST_FRAMES];
        int frames = 1;
        int printed;
        int time;
        boolean ended;

        boolean hasFrame(int frame) {
            return frame >= 0 && frame < frames;
        }

        void reset() {
            for (int i = 0; i < cells.length; i++) cells[i] = 0;
            for (int i = 0; i < locals.length; i++) locals[i] = 0;
            for (int i = 0; i < lines.length; i++) lines[i] = 0;
            frames = 1;
            printed = 0;
            time = 0;
            ended = false;
        }

        void copyFrom(State other) {
            System.arraycopy(other.cells, 0, cells, 0, cells.length);
            System.arraycopy(other.locals, 0, locals, 0, locals.length);
            System.arraycopy(other.lines, 0, lines, 0, lines.length);
            frames = other.frames;
            printed = other.printed;
            time = other.time;
            ended = other.ended;
        }
    }

    private static final class Machine {
        final State now = new State();
        // Outside the state: what comes to a place of it is the same each time that the place is come to.
        final int[] output = new int[MOST_OUTPUT];
        /** The cell that has another value behind the line that was done last, or NONE. */
        int changed = NONE;

        /** Whether the line was done; if not, it is a TRAP and nothing is changed. */
        boolean doLine(Program program) {
            changed = NONE;
            int line = now.lines[now.frames - 1];
            if (!program.has(line)) return false;
            boolean done = perform(program.operations[line], program.as[line], program.bs[line]);
            if (done) now.time++;
            return done;
        }

        // That a and b are locals where they must be was looked at when the line was made.
        private boolean perform(int operation, int a, int b) {
            switch (operation) {
                case SET: return put(a, b);
                case ADD: return put(a, read(a) + read(b));
                case SUB: return put(a, read(a) - read(b));
                case MUL: return put(a, read(a) * read(b));
                case DIV: return read(b) != 0 && put(a, read(a) / read(b));
                case LOAD: return isCell(read(b)) && put(a, now.cells[read(b)]);
                case STORE: return store(read(a), read(b));
                case JUMP: return jump(a);
                case TEST: return read(a) == 0 ? jump(b) : pass();
                case CALL: return enter(a, b);
                case RETURN: return leave(read(a));
                case PRINT: return print(read(a));
                default: return end();
            }
        }

        private int read(int local) {
            return now.locals[(now.frames - 1) * LOCALS + local];
        }

        private boolean put(int local, int value) {
            now.locals[(now.frames - 1) * LOCALS + local] = value;
            return pass();
        }

        private boolean pass() {
            now.lines[now.frames - 1]++;
            return true;
        }

        private boolean jump(int line) {
            now.lines[now.frames - 1] = line;
            return true;
        }

        private boolean end() {
            now.ended = true;
            return true;
        }

        private boolean store(int cell, int value) {
            if (!isCell(cell)) return false;
            if (now.cells[cell] != value) changed = cell;
            now.cells[cell] = value;
            return pass();
        }

        private boolean enter(int line, int handed) {
            if (now.frames == MOST_FRAMES) return false;
            pass();
            int from = (now.frames - 1) * LOCALS;
            for (int i = 0; i < LOCALS; i++) {
                now.locals[from + LOCALS + i] = i < handed ? now.locals[from + i] : 0;
            }
            now.frames++;
            return jump(line);
        }

        private boolean leave(int value) {
            if (now.frames == 1) return end();
            now.frames--;
            now.locals[(now.frames - 1) * LOCALS] = value;
            return true;
        }

        private boolean print(int value) {
            if (now.printed == MOST_OUTPUT) return false;
            output[now.printed] = value;
            now.printed++;
            return pass();
        }
    }

    /** The states that are kept, the earliest first. */
    private static final class History {
        final State[] states = new State[MOST_KEPT];
        final int firstSpacing;
        int spacing;
        int size = 1;
        int farthest;

        History(int firstSpacing) {
            this.firstSpacing = firstSpacing;
            spacing = firstSpacing;
            for (int i = 0; i < MOST_KEPT; i++) states[i] = new State();
        }

        void restart(State start) {
            states[0].copyFrom(start);
            size = 1;
            spacing = firstSpacing;
            farthest = 0;
        }

        void arrive(State state) {
            if (state.time <= farthest) return;
            farthest = state.time;
            if (state.time % spacing != 0) return;
            if (size == MOST_KEPT) thinOut();
            if (state.time % spacing != 0) return;
            states[size].copyFrom(state);
            size++;
        }

        private void thinOut() {
            int left = (size + 1) / 2;
            for (int i = 1; i < left; i++) {
                // Changed round, not written over: the state that goes is used again for a later one.
                State gone = states[i];
                states[i] = states[2 * i];
                states[2 * i] = gone;
            }
            size = left;
            spacing = 2 * spacing;
        }

        /** The place of the latest state that is kept of a time not behind the one told; NONE if there is none. */
        int latestUpTo(int time) {
            int i = size - 1;
            while (i >= 0 && states[i].time > time) i--;
            return i;
        }
    }
}
