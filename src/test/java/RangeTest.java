import java.util.function.IntFunction;

/**
 * Too small and too large: for each range that the document tells, all that is inside, what is just
 * outside, and the least and the greatest int.
 */
public final class RangeTest {
    private static final int LOW = Integer.MIN_VALUE, HIGH = Integer.MAX_VALUE;
    private static final int DONE = TraceDebugger.DONE, END = TraceDebugger.END, TRAP = TraceDebugger.TRAP;
    private static final Check check = new Check();

    public static void main(String[] args) {
        operations();
        argumentsOfLines();
        linesToMark();
        cells();
        cellsOfLoadAndStore();
        linesToGoTo();
        testsOfAnyNumber();
        frames();
        locals();
        outputs();
        keptStates();
        times();
        tellings();
        spacings();
        valuesOfAnyInt();
        check.close();
    }

    /** Each number of the range is taken, and none outside of it. */
    private static void range(String what, TraceDebugger x, int least, int greatest,
            Class<? extends RuntimeException> kind, IntFunction<Object> call) {
        for (int wrong : new int[] {LOW, least - 1, greatest + 1, HIGH}) {
            check.refused(what + " " + wrong, x, kind, () -> call.apply(wrong));
        }
        for (int number = least; number <= greatest; number++) {
            int inside = number;
            boolean taken = !(Check.answerOf(() -> call.apply(inside)) instanceof String);
            check.due(what + " " + inside + " is taken", taken, true);
        }
    }

    private static void operations() {
        check.sentence("an OPERATION 0 .. 12");
        TraceDebugger x = new TraceDebugger(1);
        range("operation", x, 0, 12, Check.ARGUMENT, operation -> x.line(operation, 0, 0));
        check.due("lines", x.told(5), 13);
    }

    /** Which of a and b must be a local (8 numbers) or how many locals are handed on (9), by operation; 0: any int. */
    private static final int[] OF_A = {8, 8, 8, 8, 8, 8, 8, 0, 8, 0, 8, 8, 0};
    private static final int[] OF_B = {0, 8, 8, 8, 8, 8, 8, 0, 0, 9, 0, 0, 0};

    private static boolean inside(int number, int howMany) {
        return howMany == 0 || number >= 0 && number < howMany;
    }

    private static void argumentsOfLines() {
        check.sentence("a local (a of 0 to 6, 8, 10, 11, b of 1 to 6) that is not 0 .. 7; of 9 b that is not 0 .. 8."
            + " (Lines to which it jumps may be any.)");
        int[] edges = {LOW, -1, 0, 1, 6, 7, 8, 9, HIGH};
        for (int operation = 0; operation <= 12; operation++) {
            for (int a : edges) {
                for (int b : edges) argumentsOfLine(operation, a, b);
            }
        }
    }

    private static void argumentsOfLine(int operation, int a, int b) {
        TraceDebugger x = Programs.loop(1);
        String what = "line(" + operation + ", " + a + ", " + b + ")";
        if (inside(a, OF_A[operation]) && inside(b, OF_B[operation])) {
            check.due(what, x.line(operation, a, b), 1);
            check.due(what + ", lines", x.told(5), 2);
        } else {
            check.refused(what, x, Check.ARGUMENT, () -> x.line(operation, a, b));
        }
    }

    private static void linesToMark() {
        check.sentence("IndexOutOfBounds: there is no such line");
        for (int lines : new int[] {1, 2, 79, 80}) {
            TraceDebugger x = new TraceDebugger(1);
            for (int i = 0; i < lines; i++) x.line(Op.HALT, 0, 0);
            range("mark of " + lines, x, 0, lines - 1, Check.INDEX, line -> x.mark(line, true));
            range("mark off of " + lines, x, 0, lines - 1, Check.INDEX, line -> x.mark(line, false));
        }
    }

    private static void cells() {
        check.sentence("There are 64 CELLS");
        TraceDebugger x = Programs.loop(1);
        range("cell", x, 0, 63, Check.INDEX, x::cell);
        range("watch", x, 0, 63, Check.INDEX, cell -> x.watch(cell, true));
        range("watch off", x, 0, 63, Check.INDEX, cell -> x.watch(cell, false));
        range("poke", x, 0, 63, Check.INDEX, cell -> x.poke(cell, cell + 1));
        for (int cell = 0; cell < 64; cell++) check.due("cell " + cell + " is one of its own", x.cell(cell), cell + 1);
        x.step();
        range("cell at time 1", x, 0, 63, Check.INDEX, x::cell);
    }

    private static void cellsOfLoadAndStore() {
        check.sentence("LOAD, STORE: TRAP if there is none");
        for (int cell = 0; cell < 64; cell++) {
            TraceDebugger x = Check.made(9, Check.l(Op.SET, 1, cell), Check.l(Op.SET, 2, 8), Check.l(Op.LOAD, 3, 1),
                Check.l(Op.STORE, 1, 2), Check.l(Op.HALT, 0, 0));
            x.poke(cell, 1000 + cell);
            check.due("cell " + cell, x.go(), END);
            check.due("LOAD of " + cell, x.local(0, 3), 1000 + cell);
            for (int other = 0; other < 64; other++) check.due("STORE to " + cell, x.cell(other), other == cell ? 8 : 0);
        }
        for (int cell : new int[] {LOW, -64, -1, 64, 65, HIGH}) {
            trapsAt("LOAD of " + cell, Check.l(Op.SET, 1, cell), Check.l(Op.LOAD, 2, 1));
            trapsAt("STORE to " + cell, Check.l(Op.SET, 1, cell), Check.l(Op.STORE, 1, 2));
        }
    }

    /** The first line is done, the second is a TRAP that changes nothing. */
    private static void trapsAt(String what, int[] first, int[] second) {
        TraceDebugger x = Check.made(9, first, second, Check.l(Op.HALT, 0, 0));
        check.due(what + ", before", x.step(), DONE);
        String before = Picture.of(x);
        check.due(what, x.step(), TRAP);
        check.told(what, x, 1, 1, 2);
        x.goTo(1);
        check.due(what + " changes nothing", Picture.of(x), before);
    }

    private static void linesToGoTo() {
        check.sentence("A line that there is not is a TRAP");
        for (int line : new int[] {LOW, -80, -1, 2, 3, 79, 80, 81, HIGH}) {
            TraceDebugger jump = Check.made(1, Check.l(Op.JUMP, line, 0), Check.l(Op.HALT, 0, 0));
            noLineBehind("JUMP to " + line, jump, line, 1);
            TraceDebugger test = Check.made(1, Check.l(Op.TEST, 0, line), Check.l(Op.HALT, 0, 0));
            noLineBehind("TEST to " + line, test, line, 1);
            TraceDebugger call = Check.made(1, Check.l(Op.CALL, line, 0), Check.l(Op.HALT, 0, 0));
            noLineBehind("CALL of " + line, call, line, 2);
        }
        for (int line : new int[] {0, 1}) {
            TraceDebugger x = Check.made(1, Check.l(Op.JUMP, line, 0), Check.l(Op.HALT, 0, 0));
            check.due("JUMP to a line that there is", x.step(), DONE);
            check.due("and what comes then", x.step(), line == 0 ? DONE : END);
        }
        noLineBehind("the line behind the last", Check.made(1, Check.l(Op.SET, 0, 0)), 1, 1);
    }

    private static void noLineBehind(String what, TraceDebugger x, int line, int frames) {
        check.due(what + " is done", x.step(), DONE);
        check.told(what + ", TRAP not met", x, 1, frames, 0);
        check.due(what + ", at", x.at(0), line);
        check.due(what + ", then", x.step(), TRAP);
        check.told(what + ", TRAP met", x, 1, frames, 2);
        check.due(what + ", still at", x.at(0), line);
    }

    private static void testsOfAnyNumber() {
        check.sentence("TEST: jump to line b if local a is 0");
        for (int value : new int[] {LOW, -1, 0, 1, HIGH}) {
            TraceDebugger x = Check.made(1, Check.l(Op.SET, 7, value), Check.l(Op.TEST, 7, 99), Check.l(Op.HALT, 0, 0));
            x.goTo(2);
            check.due("TEST of " + value, x.at(0), value == 0 ? 99 : 2);
            check.due("no jump, no TRAP", x.step(), value == 0 ? TRAP : END);
        }
    }

    private static void frames() {
        check.sentence("FRAMES, 1 .. 16");
        for (int frames = 1; frames <= 16; frames++) {
            TraceDebugger x = Programs.deep(9);
            x.goTo(2 * frames - 1);
            check.due("frames", x.told(1), frames);
            range("at of " + frames, x, 0, frames - 1, Check.INDEX, x::at);
            range("local of " + frames, x, 0, frames - 1, Check.INDEX, frame -> x.local(frame, 0));
        }
    }

    private static void locals() {
        check.sentence("8 LOCALS (0 .. 7)");
        TraceDebugger x = Programs.deep(9);
        range("local of the only frame", x, 0, 7, Check.INDEX, local -> x.local(0, local));
        x.goTo(31);
        for (int frame : new int[] {0, 1, 15}) {
            range("local of frame " + frame, x, 0, 7, Check.INDEX, local -> x.local(frame, local));
        }
        check.refused("neither", x, Check.INDEX, () -> x.local(16, 8));
        check.refused("neither, too small", x, Check.INDEX, () -> x.local(-1, -1));
        check.refused("a local of the next frame", x, Check.INDEX, () -> x.local(1, 8));
        check.refused("a local of the frame before", x, Check.INDEX, () -> x.local(0, -8));
    }

    private static void outputs() {
        check.sentence("Output, from the first on");
        for (int printed : new int[] {1, 2, 199, 200}) {
            TraceDebugger x = Programs.prints(9);
            x.goTo(3 * printed);
            check.due("output", x.told(2), printed);
            range("output of " + printed, x, 0, printed - 1, Check.INDEX, x::output);
        }
    }

    private static void keptStates() {
        check.sentence("The time of state i that is kept");
        for (int kept = 1; kept <= 8; kept++) {
            TraceDebugger x = Programs.loop(1);
            x.goTo(kept - 1);
            check.due("kept", x.told(3), kept);
            range("kept of " + kept, x, 0, kept - 1, Check.INDEX, x::kept);
        }
    }

    private static void times() {
        check.sentence("IllegalArgument: it is not 0 .. 2000");
        TraceDebugger x = Programs.loop(100);
        range("goTo", x, 0, 2000, Check.ARGUMENT, x::goTo);
        for (int time : new int[] {0, 1, 1999, 2000, 1, 0}) check.due("goTo " + time, x.goTo(time), time);
    }

    private static void tellings() {
        check.sentence("NONE for another what");
        TraceDebugger x = Programs.loop(50);
        x.goTo(60);
        int[] want = {60, 1, 0, 2, 50, 1, 0};
        for (int what = 0; what < 7; what++) check.due("told " + what, x.told(what), want[what]);
        for (int what : new int[] {LOW, -2, -1, 7, 8, HIGH}) check.due("told " + what, x.told(what), TraceDebugger.NONE);
    }

    private static void spacings() {
        check.sentence("1 .. 100; other numbers count as the nearest of these");
        for (int spacing = 1; spacing <= 100; spacing++) spacing(spacing, spacing);
        for (int spacing : new int[] {LOW, -100, -1, 0}) spacing(spacing, 1);
        for (int spacing : new int[] {101, 200, 1000, HIGH}) spacing(spacing, 100);
    }

    private static void spacing(int told, int counts) {
        TraceDebugger x = Programs.loop(told);
        check.due("SPACING of " + told, x.told(4), counts);
        x.goTo(counts);
        check.due("first kept of " + told, Picture.keptOf(x), " 0 " + counts);
    }

    private static void valuesOfAnyInt() {
        check.sentence("all ints");
        for (int value : new int[] {LOW, -1, 0, 1, HIGH}) {
            TraceDebugger x = Check.made(1, Check.l(Op.LOAD, 1, 0), Check.l(Op.SET, 2, value), Check.l(Op.PRINT, 1, 0),
                Check.l(Op.PRINT, 2, 0), Check.l(Op.SET, 3, 63), Check.l(Op.STORE, 3, 2), Check.l(Op.CALL, 7, 8),
                Check.l(Op.RETURN, 2, 0));
            check.due("poke of " + value, x.poke(0, value), 0);
            check.due("poked", x.poke(0, value), value);
            x.goTo(7);
            check.due("LOAD", x.local(1, 1), value);
            check.due("SET", x.local(1, 2), value);
            check.due("handed on", x.local(0, 2), value);
            check.due("PRINT", x.output(0) == value && x.output(1) == value, true);
            check.due("STORE", x.cell(63), value);
            x.step();
            check.due("RETURN", x.local(0, 0), value);
        }
    }
}
