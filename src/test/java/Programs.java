/** Programs that come to an edge of the machine. */
final class Programs {
    private Programs() {}

    /** A jump to itself: one line for ever. */
    static TraceDebugger loop(int spacing) {
        return Check.made(spacing, Check.l(Op.JUMP, 0, 0));
    }

    /** 80 lines: line i sets local 0 to i. */
    static TraceDebugger eightyLines(int spacing) {
        TraceDebugger x = new TraceDebugger(spacing);
        for (int i = 0; i < 80; i++) x.line(Op.SET, 0, i);
        return x;
    }

    /** Each frame adds 1 to local 1 and calls another: the 16th comes at time 31, the TRAP at time 32. */
    static TraceDebugger deep(int spacing) {
        return Check.made(spacing, Check.l(Op.SET, 2, 1), Check.l(Op.ADD, 1, 2), Check.l(Op.CALL, 1, 8));
    }

    /** Prints 1, 2, 3, ..: 3 lines a round, number n at time 3 n. */
    static TraceDebugger prints(int spacing) {
        return Check.made(spacing, Check.l(Op.SET, 1, 1), Check.l(Op.ADD, 0, 1), Check.l(Op.PRINT, 0, 0),
            Check.l(Op.JUMP, 1, 0));
    }

    /** Counts down, then does the line told, as number 6, from time 1999 to 2000, in the first frame; local 1 is 1. */
    static TraceDebugger lastly(int[] line) {
        return Check.made(9, Check.l(Op.SET, 2, 0), Check.l(Op.SET, 0, 665), Check.l(Op.SET, 1, 1), Check.l(Op.TEST, 0, 6),
            Check.l(Op.SUB, 0, 1), Check.l(Op.JUMP, 3, 0), line);
    }

    /** The same in a second frame, which is called at time 0; behind the call comes line 1. */
    static TraceDebugger lastlyInACall(int[] line) {
        return Check.made(9, Check.l(Op.CALL, 1, 0), Check.l(Op.SET, 0, 665), Check.l(Op.SET, 1, 1), Check.l(Op.TEST, 0, 6),
            Check.l(Op.SUB, 0, 1), Check.l(Op.JUMP, 3, 0), line);
    }
}
