/** What each operation does, and promises 6 to 9: step, next, finish, go. */
public final class ForwardTest {
    private static final int DONE = TraceDebugger.DONE, BREAK = TraceDebugger.BREAK, WATCH = TraceDebugger.WATCH;
    private static final int END = TraceDebugger.END, TRAP = TraceDebugger.TRAP, OUT = TraceDebugger.OUT;
    private static final Check check = new Check();

    public static void main(String[] args) {
        arithmetic();
        loadsAndStores();
        jumpsAndTests();
        callsAndReturns();
        sixteenFrames();
        twoHundredOutputs();
        ends();
        linesThatThereAreNot();
        trapsChangeNothing();
        steps();
        nexts();
        finishes();
        goes();
        orderOfStops();
        timeRunsOut();
        check.close();
    }

    private static int reckon(int operation, int a, int b) {
        TraceDebugger x = Check.made(9, Check.l(0, 6, a), Check.l(0, 7, b), Check.l(operation, 6, 7));
        x.goTo(3);
        check.due("time behind operation " + operation, x.told(0), 3);
        check.due("b is left", x.local(0, 7), b);
        return x.local(0, 6);
    }

    private static void arithmetic() {
        int low = Integer.MIN_VALUE;
        int high = Integer.MAX_VALUE;
        check.due("ADD", reckon(1, 5, 7), 12);
        check.due("ADD over", reckon(1, high, 1), low);
        check.due("SUB", reckon(2, 5, 7), -2);
        check.due("SUB over", reckon(2, low, 1), high);
        check.due("MUL", reckon(3, -5, 7), -35);
        check.due("MUL over", reckon(3, 65536, 65536), 0);
        check.due("DIV", reckon(4, 17, 5), 3);
        check.due("DIV toward 0", reckon(4, -17, 5), -3);
        check.due("DIV toward 0, again", reckon(4, 17, -5), -3);
        check.due("DIV over", reckon(4, low, -1), low);
        TraceDebugger x = Check.made(9, Check.l(0, 6, 3), Check.l(4, 6, 7));
        check.due("DIV by 0", x.go(), TRAP);
        check.due("DIV by 0 leaves", x.local(0, 6), 3);
        TraceDebugger self = Check.made(9, Check.l(0, 2, 3), Check.l(1, 2, 2), Check.l(3, 2, 2), Check.l(4, 2, 2));
        self.goTo(3);
        check.due("with itself", self.local(0, 2), 36);
        self.step();
        check.due("by itself", self.local(0, 2), 1);
        self.goTo(1);
        check.due("SET", self.local(0, 2), 3);
        check.due("SET no other", self.local(0, 3), 0);
    }

    private static void loadsAndStores() {
        for (int cell : new int[] {0, 63}) {
            TraceDebugger x = Check.made(9, Check.l(0, 1, cell), Check.l(5, 2, 1), Check.l(0, 3, 8), Check.l(6, 1, 3));
            x.poke(cell, 77);
            check.due("lines behind", x.go(), TRAP);
            check.due("LOAD " + cell, x.local(0, 2), 77);
            check.due("STORE " + cell, x.cell(cell), 8);
        }
        for (int cell : new int[] {-1, 64, Integer.MIN_VALUE, Integer.MAX_VALUE}) {
            TraceDebugger load = Check.made(9, Check.l(0, 1, cell), Check.l(5, 1, 1), Check.l(12, 0, 0));
            check.due("LOAD none", load.go(), TRAP);
            check.told("LOAD none", load, 1, 1, 2);
            TraceDebugger store = Check.made(9, Check.l(0, 1, cell), Check.l(6, 1, 1), Check.l(12, 0, 0));
            check.due("STORE none", store.go(), TRAP);
            check.told("STORE none", store, 1, 1, 2);
        }
    }

    private static void jumpsAndTests() {
        TraceDebugger x = Check.made(9, Check.l(8, 3, 2), Check.l(12, 0, 0), Check.l(0, 3, -1), Check.l(8, 3, 1),
            Check.l(7, 0, 99));
        int[] want = {2, 3, 4, 0, 1};
        for (int line : want) {
            x.step();
            check.due("path", x.at(0), line);
        }
        check.due("HALT", x.step(), END);
    }

    private static void callsAndReturns() {
        for (int handed = 0; handed <= 8; handed++) {
            int[][] lines = new int[11][];
            for (int i = 0; i < 8; i++) lines[i] = Check.l(0, i, i + 10);
            lines[8] = Check.l(9, 10, handed);
            lines[9] = Check.l(12, 0, 0);
            lines[10] = Check.l(10, 7, 0);
            TraceDebugger x = Check.made(9, lines);
            x.goTo(9);
            check.told("CALL", x, 9, 2, 0);
            check.due("called at", x.at(0), 10);
            check.due("waits at", x.at(1), 9);
            for (int i = 0; i < 8; i++) {
                check.due("handed " + handed + ", local " + i, x.local(0, i), i < handed ? i + 10 : 0);
                check.due("the caller's local " + i, x.local(1, i), i + 10);
            }
            check.due("RETURN", x.step(), DONE);
            check.told("RETURN", x, 10, 1, 0);
            check.due("answer", x.local(0, 0), handed == 8 ? 17 : 0);
            check.due("other locals stay", x.local(0, 7), 17);
            check.due("behind the call", x.at(0), 9);
        }
        TraceDebugger twice = Check.made(9, Check.l(9, 3, 0), Check.l(9, 5, 0), Check.l(12, 0, 0), Check.l(0, 5, 9),
            Check.l(10, 1, 0), Check.l(11, 5, 0), Check.l(10, 1, 0));
        check.due("a frame that was used before", twice.go(), END);
        check.due("has locals of 0", twice.output(0), 0);
    }

    private static void sixteenFrames() {
        TraceDebugger x = Check.made(100, Check.l(0, 0, 4), Check.l(9, 1, 8));
        check.due("too deep", x.go(), TRAP);
        check.told("too deep", x, 16, 16, 2);
        check.due("line of the TRAP", x.at(0), 1);
        check.due("first frame", x.at(15), 2);
        check.due("local of the first frame", x.local(15, 0), 4);
    }

    private static void twoHundredOutputs() {
        TraceDebugger x = Check.made(100, Check.l(0, 1, 1), Check.l(11, 0, 0), Check.l(1, 0, 1), Check.l(7, 1, 0));
        check.due("too much", x.go(), TRAP);
        check.told("too much", x, 601, 1, 2);
        check.due("200", x.told(2), 200);
        for (int i = 0; i < 200; i++) check.due("output", x.output(i), i);
    }

    private static void ends() {
        TraceDebugger halt = Check.made(1, Check.l(0, 0, 3), Check.l(9, 2, 1), Check.l(12, 0, 0));
        check.due("HALT in a called frame", halt.go(), END);
        check.told("HALT", halt, 3, 2, 1);
        check.due("the line is not behind", halt.at(0), 2);
        TraceDebugger leave = Check.made(1, Check.l(0, 1, 3), Check.l(10, 1, 0));
        check.due("RETURN of the first frame", leave.go(), END);
        check.told("RETURN", leave, 2, 1, 1);
        check.due("the line is not behind, again", leave.at(0), 1);
        check.due("local 0 is left", leave.local(0, 0), 0);
        for (TraceDebugger x : new TraceDebugger[] {halt, leave}) {
            String before = Picture.of(x);
            check.due("step at the END", x.step(), END);
            check.due("next at the END", x.next(), END);
            check.due("finish at the END", x.finish(), END);
            check.due("go at the END", x.go(), END);
            check.due("nothing is done any more", Picture.of(x), before);
        }
    }

    private static void linesThatThereAreNot() {
        for (int line : new int[] {-1, 2, 80, 81, Integer.MIN_VALUE, Integer.MAX_VALUE}) {
            TraceDebugger x = Check.made(1, Check.l(7, line, 0), Check.l(12, 0, 0));
            check.due("the jump is done", x.step(), DONE);
            check.told("not met yet", x, 1, 1, 0);
            check.due("a line that there is not", x.step(), TRAP);
            check.told("met", x, 1, 1, 2);
            check.due("at", x.at(0), line);
            TraceDebugger called = Check.made(1, Check.l(9, line, 0), Check.l(12, 0, 0));
            check.due("the call is done", called.step(), DONE);
            check.due("not gone before the TRAP", called.finish(), TRAP);
            check.told("in the called frame", called, 1, 2, 2);
        }
        check.due("no lines at all", new TraceDebugger(1).next(), TRAP);
        check.due("no lines at all, finish", new TraceDebugger(1).finish(), TRAP);
    }

    private static void trapsChangeNothing() {
        TraceDebugger x = Check.made(1, Check.l(0, 0, 64), Check.l(6, 0, 0));
        x.step();
        String before = Picture.of(x);
        check.due("TRAP", x.step(), TRAP);
        String trapped = Picture.of(x);
        check.due("step in a TRAP", x.step(), TRAP);
        check.due("next in a TRAP", x.next(), TRAP);
        check.due("finish in a TRAP", x.finish(), TRAP);
        check.due("go in a TRAP", x.go(), TRAP);
        check.due("still", Picture.of(x), trapped);
        x.goTo(1);
        check.due("but for the TRAP nothing was changed", Picture.of(x), before);
    }

    private static void steps() {
        TraceDebugger x = Check.made(1, Check.l(0, 0, 3), Check.l(6, 0, 0), Check.l(6, 0, 0), Check.l(9, 5, 0),
            Check.l(12, 0, 0), Check.l(10, 0, 0));
        x.watch(3, true);
        x.watch(4, true);
        for (int i = 0; i < 6; i++) x.mark(i, true);
        int[] want = {DONE, WATCH, DONE, DONE, DONE, END};
        for (int i = 0; i < want.length; i++) {
            check.due("step " + i, x.step(), want[i]);
            check.due("time of step " + i, x.told(0), i + 1);
        }
    }

    /** Calls a frame that calls another: 0 SET, 1 CALL 4, 2 STORE, 3 HALT; 4 CALL 6, 5 RETURN; 6 STORE, 7 RETURN. */
    private static TraceDebugger nested() {
        return Check.made(1, Check.l(0, 1, 7), Check.l(9, 4, 2), Check.l(6, 0, 1), Check.l(12, 0, 0),
            Check.l(9, 6, 2), Check.l(10, 0, 0), Check.l(6, 1, 1), Check.l(10, 0, 0));
    }

    private static void nexts() {
        TraceDebugger x = nested();
        check.due("next of a plain line", x.next(), DONE);
        check.told("a plain line", x, 1, 1, 0);
        check.due("next of a call", x.next(), DONE);
        check.told("behind the call", x, 6, 1, 0);
        check.due("at the line behind", x.at(0), 2);
        check.due("next", x.next(), DONE);
        check.due("next makes the END", x.next(), END);
        x.goTo(3);
        check.due("next, deep", x.next(), DONE);
        check.told("deep", x, 4, 3, 0);
        check.due("next of a RETURN", x.next(), DONE);
        check.told("behind the RETURN", x, 5, 2, 0);
        x.goTo(1);
        x.mark(7, true);
        check.due("next stops at a mark inside", x.next(), BREAK);
        check.told("mark inside", x, 4, 3, 0);
        x.goTo(1);
        x.watch(7, true);
        check.due("next stops at a watch inside, before the mark", x.next(), WATCH);
        check.told("watch inside", x, 4, 3, 0);
        x.watch(7, false);
        x.mark(7, false);
        x.goTo(1);
        x.mark(2, true);
        check.due("BREAK before DONE", x.next(), BREAK);
        check.told("mark behind the call", x, 6, 1, 0);
        x.mark(1, true);
        x.goTo(0);
        check.due("BREAK before DONE of a plain line", x.next(), BREAK);
        TraceDebugger trap = Check.made(1, Check.l(9, 1, 0), Check.l(4, 0, 0));
        check.due("a TRAP inside", trap.next(), TRAP);
        check.told("a TRAP inside", trap, 1, 2, 2);
    }

    private static void finishes() {
        TraceDebugger x = nested();
        check.due("finish of the first frame", x.finish(), END);
        check.told("the END", x, 8, 1, 1);
        x.goTo(2);
        check.due("finish over a call", x.finish(), DONE);
        check.told("finish over a call", x, 6, 1, 0);
        x.goTo(3);
        check.due("finish of the third frame", x.finish(), DONE);
        check.told("finish of the third frame", x, 5, 2, 0);
        x.goTo(2);
        x.mark(5, true);
        check.due("finish stops at a mark", x.finish(), BREAK);
        check.told("finish stops at a mark", x, 5, 2, 0);
        x.goTo(3);
        check.due("BREAK before DONE", x.finish(), BREAK);
        x.watch(7, true);
        x.goTo(2);
        check.due("finish stops at a watch", x.finish(), WATCH);
        check.told("finish stops at a watch", x, 4, 3, 0);
    }

    private static void goes() {
        TraceDebugger x = Check.made(1, Check.l(0, 1, 1), Check.l(1, 0, 1), Check.l(6, 1, 0), Check.l(7, 1, 0));
        x.mark(1, true);
        check.due("to the mark", x.go(), BREAK);
        check.due("to the mark, time", x.told(0), 1);
        check.due("one line at least", x.go(), BREAK);
        check.due("one line at least, time", x.told(0), 4);
        x.watch(1, true);
        check.due("to the watch", x.go(), WATCH);
        check.due("to the watch, time", x.told(0), 6);
        x.mark(1, false);
        x.watch(1, false);
        check.due("no stop", x.go(), OUT);
        check.due("no stop, time", x.told(0), 2000);
        TraceDebugger same = Check.made(1, Check.l(6, 0, 0), Check.l(6, 0, 0), Check.l(12, 0, 0));
        same.watch(0, true);
        check.due("the same value is no other", same.go(), END);
    }

    private static void orderOfStops() {
        TraceDebugger x = Check.made(1, Check.l(0, 1, 4), Check.l(6, 1, 1), Check.l(12, 0, 0));
        x.watch(4, true);
        x.mark(2, true);
        check.due("WATCH before BREAK", x.go(), WATCH);
        check.due("END before BREAK", x.go(), END);
        TraceDebugger trap = Check.made(1, Check.l(0, 1, 4), Check.l(4, 0, 0));
        trap.mark(1, true);
        check.due("a TRAP that was not met", trap.go(), BREAK);
        check.due("met", trap.go(), TRAP);
        check.due("step of a marked line to a marked line", stepToMark(), DONE);
    }

    private static int stepToMark() {
        TraceDebugger x = Check.made(1, Check.l(7, 0, 0));
        x.mark(0, true);
        return x.step();
    }

    private static void timeRunsOut() {
        TraceDebugger x = Check.made(1, Check.l(7, 0, 0));
        check.due("1999", x.goTo(1999), 1999);
        check.due("the last step", x.step(), DONE);
        String before = Picture.of(x);
        check.due("step", x.step(), OUT);
        check.due("next", x.next(), OUT);
        check.due("finish", x.finish(), OUT);
        check.due("go", x.go(), OUT);
        check.due("nothing is done", Picture.of(x), before);
        check.told("OUT is neither END nor TRAP", x, 2000, 1, 0);
        x.back();
        check.due("DONE before OUT", x.next(), DONE);
        x.back();
        check.due("go to the last time", x.go(), OUT);
        x.back();
        x.mark(0, true);
        check.due("BREAK before OUT", x.go(), BREAK);
        check.due("but none is done then", x.go(), OUT);
        atTheLastTime();
    }

    /** A program whose last line, the one told, comes at time 1999. */
    private static TraceDebugger lastly(int[] line) {
        return Check.made(9, Check.l(0, 2, 0), Check.l(0, 0, 665), Check.l(0, 1, 1), Check.l(8, 0, 6),
            Check.l(2, 0, 1), Check.l(7, 3, 0), line);
    }

    private static void atTheLastTime() {
        TraceDebugger end = lastly(Check.l(12, 0, 0));
        check.due("END at time 2000", end.go(), END);
        check.told("END at time 2000", end, 2000, 1, 1);
        check.due("END before OUT", end.step(), END);
        TraceDebugger call = lastly(Check.l(9, 0, 0));
        call.goTo(1999);
        check.due("a frame that is not gone", call.next(), OUT);
        check.told("a frame that is not gone", call, 2000, 2, 0);
        TraceDebugger jump = lastly(Check.l(7, -1, 0));
        check.due("no TRAP is met at time 2000", jump.go(), OUT);
        check.told("no TRAP", jump, 2000, 1, 0);
        TraceDebugger store = lastly(Check.l(6, 0, 1));
        store.watch(0, true);
        check.due("WATCH before OUT", store.go(), WATCH);
        check.told("WATCH before OUT", store, 2000, 1, 0);
        TraceDebugger trap = lastly(Check.l(4, 0, 0));
        check.due("a TRAP at time 1999", trap.go(), TRAP);
        check.told("a TRAP at time 1999", trap, 1999, 1, 2);
    }
}
