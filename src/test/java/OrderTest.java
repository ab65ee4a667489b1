import java.util.function.Supplier;

/** Which of several stops, and which of several exceptions, comes first: each pair that can meet. */
public final class OrderTest {
    private static final int DONE = TraceDebugger.DONE, BREAK = TraceDebugger.BREAK, WATCH = TraceDebugger.WATCH;
    private static final int END = TraceDebugger.END, TRAP = TraceDebugger.TRAP, OUT = TraceDebugger.OUT;
    private static final Check check = new Check();

    public static void main(String[] args) {
        check.sentence("of several the first of: TRAP 4, END 3, WATCH 2, BREAK 1, DONE 0, OUT 5");
        trapAndBreak();
        trapAndWatch();
        trapAndDone();
        trapAndOut();
        endAndWatch();
        endAndBreak();
        endAndDone();
        endAndOut();
        watchAndBreak();
        watchAndDone();
        watchAndOut();
        breakAndDone();
        breakAndOut();
        doneAndOut();
        nothingButOut();
        stepTellsNoBreak();
        noWatchWithoutAnotherValue();
        exceptionsOfLine();
        exceptionsOfPoke();
        check.close();
    }

    private static TraceDebugger at(int time, TraceDebugger x) {
        x.goTo(time);
        return x;
    }

    private static TraceDebugger marked(int line, TraceDebugger x) {
        x.mark(line, true);
        return x;
    }

    private static TraceDebugger watched(int cell, TraceDebugger x) {
        x.watch(cell, true);
        return x;
    }

    /** Each of the four calls, on an object made anew, stops so and at that time. */
    private static void all(String what, Supplier<TraceDebugger> made, int step, int others, int time) {
        TraceDebugger x = made.get();
        check.due(what + ", step", x.step(), step);
        check.due(what + ", time of step", x.told(0), time);
        x = made.get();
        check.due(what + ", next", x.next(), others);
        check.due(what + ", time of next", x.told(0), time);
        x = made.get();
        check.due(what + ", finish", x.finish(), others);
        check.due(what + ", time of finish", x.told(0), time);
        x = made.get();
        check.due(what + ", go", x.go(), others);
        check.due(what + ", time of go", x.told(0), time);
    }

    /** 0 SET local 1 to 4, 1 STORE it in cell 4, 2 the line told. */
    private static TraceDebugger storing(int[] last) {
        return Check.made(1, Check.l(Op.SET, 1, 4), Check.l(Op.STORE, 1, 1), last);
    }

    private static void trapAndBreak() {
        all("a marked line that is a TRAP", () -> marked(2, at(2, storing(Check.l(Op.DIV, 0, 0)))), TRAP, TRAP, 2);
        all("before it", () -> marked(2, at(1, storing(Check.l(Op.DIV, 0, 0)))), DONE, BREAK, 2);
    }

    private static void trapAndWatch() {
        all("behind a watched cell's change", () -> {
            TraceDebugger x = watched(4, at(1, storing(Check.l(Op.DIV, 0, 0))));
            check.due("the change", x.step(), WATCH);
            return x;
        }, TRAP, TRAP, 2);
    }

    private static void trapAndDone() {
        check.due("a CALL that is a TRAP", at(32, Programs.deep(9)).next(), TRAP);
        TraceDebugger x = Check.made(1, Check.l(Op.CALL, 1, 0), Check.l(Op.CALL, 7, 0));
        check.due("a TRAP in a frame that is called", x.next(), TRAP);
        check.told("a TRAP in a frame that is called", x, 2, 3, 2);
        check.due("a TRAP in the frame at hand", at(1, x).finish(), TRAP);
    }

    private static void trapAndOut() {
        all("a TRAP at time 1999", () -> at(1999, Programs.lastly(Check.l(Op.DIV, 0, 0))), TRAP, TRAP, 1999);
        all("a line that there is not at time 2000", () -> at(2000, Programs.lastly(Check.l(Op.JUMP, -1, 0))), OUT, OUT, 2000);
        TraceDebugger x = at(2000, Programs.lastly(Check.l(Op.JUMP, -1, 0)));
        x.go();
        check.told("it is not met", x, 2000, 1, 0);
    }

    private static void endAndWatch() {
        all("behind a watched cell's change", () -> {
            TraceDebugger x = watched(4, at(1, storing(Check.l(Op.HALT, 0, 0))));
            check.due("the change", x.step(), WATCH);
            return x;
        }, END, END, 3);
    }

    private static void endAndBreak() {
        all("a HALT that is marked", () -> marked(2, at(2, storing(Check.l(Op.HALT, 0, 0)))), END, END, 3);
        all("a RETURN that is marked", () -> marked(2, at(2, storing(Check.l(Op.RETURN, 0, 0)))), END, END, 3);
        all("at the END, its line marked", () -> marked(2, at(3, storing(Check.l(Op.HALT, 0, 0)))), END, END, 3);
    }

    private static void endAndDone() {
        all("the line that makes the END", () -> at(2, storing(Check.l(Op.HALT, 0, 0))), END, END, 3);
        all("RETURN of the first frame", () -> at(2, storing(Check.l(Op.RETURN, 0, 0))), END, END, 3);
        TraceDebugger x = Check.made(1, Check.l(Op.CALL, 1, 0), Check.l(Op.HALT, 0, 0));
        check.due("HALT in a frame that is called", x.next(), END);
        check.told("HALT in a frame that is called", x, 2, 2, 1);
        check.due("HALT in the frame at hand", at(1, x).finish(), END);
    }

    private static void endAndOut() {
        all("the END at time 2000", () -> at(1999, Programs.lastly(Check.l(Op.HALT, 0, 0))), END, END, 2000);
        all("at the END at time 2000", () -> at(2000, Programs.lastly(Check.l(Op.HALT, 0, 0))), END, END, 2000);
        TraceDebugger x = Programs.lastly(Check.l(Op.RETURN, 0, 0));
        check.due("from far", x.go(), END);
        check.told("from far", x, 2000, 1, 1);
    }

    private static void watchAndBreak() {
        all("a change before a mark", () -> marked(2, watched(4, at(1, storing(Check.l(Op.HALT, 0, 0))))), WATCH, WATCH, 2);
        TraceDebugger x = marked(2, watched(4, at(3, storing(Check.l(Op.HALT, 0, 0)))));
        check.due("reverse", x.reverse(), WATCH);
        check.due("reverse, time", x.told(0), 2);
    }

    private static void watchAndDone() {
        all("a change", () -> watched(4, at(1, storing(Check.l(Op.JUMP, 2, 0)))), WATCH, WATCH, 2);
        TraceDebugger x = Check.made(1, Check.l(Op.SET, 1, 4), Check.l(Op.CALL, 2, 2), Check.l(Op.STORE, 1, 1),
            Check.l(Op.RETURN, 0, 0));
        check.due("in a frame that is called", watched(4, at(1, x)).next(), WATCH);
        check.told("in a frame that is called", x, 3, 2, 0);
    }

    private static void watchAndOut() {
        all("a change at time 2000", () -> watched(0, at(1999, Programs.lastly(Check.l(Op.STORE, 0, 1)))), WATCH, WATCH, 2000);
        all("behind it", () -> watched(0, at(2000, Programs.lastly(Check.l(Op.STORE, 0, 1)))), OUT, OUT, 2000);
    }

    private static void breakAndDone() {
        all("a mark behind a line", () -> marked(1, storing(Check.l(Op.HALT, 0, 0))), DONE, BREAK, 1);
        TraceDebugger x = Check.made(1, Check.l(Op.CALL, 2, 0), Check.l(Op.HALT, 0, 0), Check.l(Op.RETURN, 0, 0));
        check.due("a mark behind a CALL, next", marked(1, x).next(), BREAK);
        check.told("a mark behind a CALL, next", x, 2, 1, 0);
        check.due("a mark behind a CALL, finish", at(1, x).finish(), BREAK);
        check.told("a mark behind a CALL, finish", x, 2, 1, 0);
    }

    private static void breakAndOut() {
        all("a mark at time 2000", () -> marked(0, at(1999, Programs.loop(9))), DONE, BREAK, 2000);
        all("at it", () -> marked(0, at(2000, Programs.loop(9))), OUT, OUT, 2000);
        TraceDebugger x = marked(1, at(1, Programs.lastlyInACall(Check.l(Op.RETURN, 0, 0))));
        check.due("finish", x.finish(), BREAK);
        check.told("finish", x, 2000, 1, 0);
    }

    private static void doneAndOut() {
        check.due("step", at(1999, Programs.loop(9)).step(), DONE);
        check.due("next", at(1999, Programs.loop(9)).next(), DONE);
        TraceDebugger x = Programs.lastlyInACall(Check.l(Op.RETURN, 0, 0));
        check.due("next, over a CALL", x.next(), DONE);
        check.told("next, over a CALL", x, 2000, 1, 0);
        check.due("finish", at(1, x).finish(), DONE);
        check.told("finish", x, 2000, 1, 0);
    }

    private static void nothingButOut() {
        check.due("go", at(1999, Programs.loop(9)).go(), OUT);
        check.due("finish", at(1999, Programs.loop(9)).finish(), OUT);
        TraceDebugger x = Programs.lastlyInACall(Check.l(Op.JUMP, 3, 0));
        check.due("next, a frame that is not gone", x.next(), OUT);
        check.told("next", x, 2000, 2, 0);
        check.due("finish, a frame that is not gone", at(1, x).finish(), OUT);
        check.told("finish", x, 2000, 2, 0);
        check.due("a CALL at time 1999", at(1999, Programs.lastly(Check.l(Op.CALL, 0, 0))).next(), OUT);
    }

    private static void stepTellsNoBreak() {
        check.sentence("BREAK and OUT not, but OUT if it can't be done for that");
        TraceDebugger x = marked(0, Programs.loop(9));
        for (int time = 1; time <= 3; time++) check.due("step to a mark", x.step(), DONE);
        check.due("time", x.told(0), 3);
    }

    private static void noWatchWithoutAnotherValue() {
        check.sentence("a watched cell has another value behind the line that was done");
        TraceDebugger same = watched(0, Check.made(1, Check.l(Op.STORE, 0, 0), Check.l(Op.HALT, 0, 0)));
        check.due("the same value", same.step(), DONE);
        TraceDebugger other = watched(5, Check.made(1, Check.l(Op.SET, 1, 4), Check.l(Op.STORE, 1, 1), Check.l(Op.HALT, 0, 0)));
        check.due("another cell", at(1, other).step(), DONE);
        TraceDebugger off = watched(4, Check.made(1, Check.l(Op.SET, 1, 4), Check.l(Op.STORE, 1, 1), Check.l(Op.HALT, 0, 0)));
        off.watch(4, false);
        check.due("no watch any more", at(1, off).step(), DONE);
        TraceDebugger poked = watched(4, Check.made(1, Check.l(Op.SET, 1, 4), Check.l(Op.STORE, 1, 1), Check.l(Op.HALT, 0, 0)));
        poked.poke(4, 4);
        check.due("the value that was poked", poked.go(), END);
        TraceDebugger late = at(2, storing(Check.l(Op.JUMP, 2, 0)));
        check.due("watched behind its change", watched(4, late).step(), DONE);
        check.due("but the change is there going back", late.reverse(), WATCH);
        check.due("at its time", late.told(0), 2);
    }

    private static void exceptionsOfLine() {
        check.sentence("Of several that a call names, the first one");
        TraceDebugger x = Programs.eightyLines(9);
        check.refused("UnsupportedOperation alone", x, Check.UNSUPPORTED, () -> x.line(0, 0, 0));
        check.refused("IllegalArgument, UnsupportedOperation", x, Check.ARGUMENT, () -> x.line(13, 0, 0));
        check.refused("a local, UnsupportedOperation", x, Check.ARGUMENT, () -> x.line(0, 8, 0));
        check.refused("b of 9, UnsupportedOperation", x, Check.ARGUMENT, () -> x.line(9, 0, 9));
        x.step();
        check.refused("IllegalState, UnsupportedOperation", x, Check.STATE, () -> x.line(0, 0, 0));
        check.refused("all three", x, Check.ARGUMENT, () -> x.line(-1, 0, 0));
        check.refused("all three, a local", x, Check.ARGUMENT, () -> x.line(1, 0, -1));
        TraceDebugger y = Programs.loop(9);
        check.due("none", y.line(0, 0, 0), 1);
        check.refused("IllegalArgument alone", y, Check.ARGUMENT, () -> y.line(13, 0, 0));
        y.step();
        check.refused("IllegalState alone", y, Check.STATE, () -> y.line(0, 0, 0));
        check.refused("IllegalArgument, IllegalState", y, Check.ARGUMENT, () -> y.line(13, 0, 0));
    }

    private static void exceptionsOfPoke() {
        check.sentence("Of several that a call names, the first one");
        TraceDebugger x = Programs.loop(9);
        check.due("none", x.poke(63, 0), 0);
        check.refused("IndexOutOfBounds alone", x, Check.INDEX, () -> x.poke(64, 0));
        x.step();
        check.refused("IllegalState alone", x, Check.STATE, () -> x.poke(63, 0));
        check.refused("IndexOutOfBounds, IllegalState", x, Check.INDEX, () -> x.poke(64, 0));
        check.refused("IndexOutOfBounds, IllegalState, too small", x, Check.INDEX, () -> x.poke(-1, 0));
    }
}
