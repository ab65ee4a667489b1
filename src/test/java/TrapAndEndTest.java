import java.util.List;
import java.util.function.Consumer;
import java.util.function.ToIntFunction;

/** A TRAP and the END as states: what makes them, what leaves them, what forgets them, and how they are told. */
public final class TrapAndEndTest {
    private static final int DONE = TraceDebugger.DONE, BREAK = TraceDebugger.BREAK, END = TraceDebugger.END;
    private static final int TRAP = TraceDebugger.TRAP, BEGIN = TraceDebugger.BEGIN;
    private static final Check check = new Check();

    public static void main(String[] args) {
        eachTrap();
        eachEnd();
        nothingIsDoneFromThere();
        readingLeavesATrap();
        linesAndPokesLeaveATrap();
        forgottenInAnyCase();
        metOnlyWhenTried();
        notNotedByGoTo();
        notNotedByGoingBack();
        forgottenByBack();
        theEndIsLeftByGoingBack();
        theEndIsComeToAgain();
        theEndIsKept();
        check.close();
    }

    /** The line told comes at time 2; local 1 is 64 and local 2 is -1 then. */
    private static TraceDebugger behindTwo(int[] line) {
        return Check.made(1, Check.l(Op.SET, 1, 64), Check.l(Op.SET, 2, -1), line);
    }

    private static void eachTrap() {
        check.sentence("time is one more behind the line that makes the END, not behind a TRAP (nothing else is changed by it)");
        int[][] lines = {Check.l(Op.DIV, 1, 0), Check.l(Op.DIV, 0, 0), Check.l(Op.LOAD, 1, 1), Check.l(Op.LOAD, 1, 2),
            Check.l(Op.STORE, 1, 1), Check.l(Op.STORE, 2, 1)};
        for (int[] line : lines) isATrap("operation " + line[0] + " of " + line[1], behindTwo(line), 2);
        isATrap("CALL", Programs.deep(1), 32);
        isATrap("PRINT", Programs.prints(1), 602);
        isATrap("no line", Check.made(1, Check.l(Op.JUMP, -1, 0)), 1);
        isATrap("no line in a frame that is called", Check.made(1, Check.l(Op.CALL, 1, 0)), 1);
        isATrap("no line behind a CALL", Check.made(1, Check.l(Op.JUMP, 2, 0), Check.l(Op.RETURN, 0, 0), Check.l(Op.CALL, 1, 0)), 3);
    }

    private static void isATrap(String what, TraceDebugger x, int time) {
        check.due(what + ", beyond it", x.goTo(2000), time);
        String before = Picture.of(x);
        check.due(what + ", told before", x.told(6), 0);
        check.due(what, x.step(), TRAP);
        check.due(what + ", told", x.told(6), 2);
        check.due(what + ", time", x.told(0), time);
        x.goTo(time);
        check.due(what + " changes nothing else", Picture.of(x), before);
    }

    private static void eachEnd() {
        check.sentence("Then the next line of that frame is the one behind, but for jumps and the END");
        isTheEnd("HALT", behindTwo(Check.l(Op.HALT, 5, 5)), 3, 1);
        isTheEnd("RETURN", behindTwo(Check.l(Op.RETURN, 1, 0)), 3, 1);
        isTheEnd("HALT in a frame that is called",
            Check.made(1, Check.l(Op.JUMP, 2, 0), Check.l(Op.JUMP, 0, 0), Check.l(Op.TEST, 1, 3), Check.l(Op.CALL, 4, 0),
                Check.l(Op.HALT, 0, 0)), 4, 2);
    }

    private static void isTheEnd(String what, TraceDebugger x, int time, int frames) {
        x.goTo(time - 1);
        String before = Picture.of(x);
        check.due(what, x.step(), END);
        check.told(what, x, time, frames, 1);
        String behind = Picture.of(x);
        check.due(what + " leaves lines, locals, cells, output", behind.substring(behind.indexOf("\nframe")),
            before.substring(before.indexOf("\nframe")));
    }

    private static void nothingIsDoneFromThere() {
        check.sentence("from there nothing is done any more");
        TraceDebugger trap = behindTwo(Check.l(Op.DIV, 1, 0));
        TraceDebugger end = behindTwo(Check.l(Op.HALT, 0, 0));
        nothingIsDone("TRAP", trap, TRAP);
        nothingIsDone("END", end, END);
        check.due("goTo beyond the END", end.goTo(2000), 3);
        check.due("goTo beyond the TRAP", trap.goTo(2000), 2);
    }

    private static void nothingIsDone(String what, TraceDebugger x, int why) {
        check.due(what, x.go(), why);
        String there = Picture.of(x);
        for (int times = 0; times < 2; times++) {
            check.due("step", x.step(), why);
            check.due("next", x.next(), why);
            check.due("finish", x.finish(), why);
            check.due("go", x.go(), why);
        }
        check.due("nothing is done", Picture.of(x), there);
    }

    private static void readingLeavesATrap() {
        check.sentence("2 in a TRAP (that was met, and time was not changed since");
        TraceDebugger x = behindTwo(Check.l(Op.DIV, 1, 0));
        x.go();
        Picture.of(x);
        x.mark(2, true);
        x.mark(2, false);
        x.watch(0, true);
        x.watch(0, false);
        check.due("reading, marks and watches leave it", x.told(6), 2);
        check.refused("goTo that is refused", x, Check.ARGUMENT, () -> x.goTo(2001));
        check.refused("line that is refused", x, Check.STATE, () -> x.line(Op.SET, 0, 0));
        check.refused("poke that is refused", x, Check.STATE, () -> x.poke(0, 0));
        check.due("refused calls leave it", x.told(6), 2);
    }

    private static void linesAndPokesLeaveATrap() {
        check.sentence("2 in a TRAP (that was met, and time was not changed since");
        TraceDebugger x = new TraceDebugger(1);
        x.step();
        x.line(Op.SET, 0, 0);
        check.due("line", x.told(6), 2);
        x.poke(0, 0);
        check.due("poke", x.told(6), 2);
        check.due("nothing is done from there", x.step(), TRAP);
        check.due("time", x.told(0), 0);
        x.goTo(0);
        check.due("when it is forgotten", x.step(), DONE);
    }

    private static void forgottenInAnyCase() {
        check.sentence("back(), reverse() and goTo() forget it in any case");
        forgotten("back at time 0", new TraceDebugger(1), TraceDebugger::back, BEGIN, 0);
        forgotten("reverse at time 0", new TraceDebugger(1), TraceDebugger::reverse, BEGIN, 0);
        forgotten("goTo at time 0", new TraceDebugger(1), x -> x.goTo(0), 0, 0);
        forgotten("goTo beyond, at time 0", new TraceDebugger(1), x -> x.goTo(2000), 0, 0);
        forgotten("back", behindTwo(Check.l(Op.DIV, 1, 0)), TraceDebugger::back, DONE, 1);
        forgotten("reverse", behindTwo(Check.l(Op.DIV, 1, 0)), TraceDebugger::reverse, BEGIN, 0);
        forgotten("goTo before", behindTwo(Check.l(Op.DIV, 1, 0)), x -> x.goTo(1), 1, 1);
        forgotten("goTo the same time", behindTwo(Check.l(Op.DIV, 1, 0)), x -> x.goTo(2), 2, 2);
        forgotten("goTo beyond", behindTwo(Check.l(Op.DIV, 1, 0)), x -> x.goTo(3), 2, 2);
        TraceDebugger marked = behindTwo(Check.l(Op.DIV, 1, 0));
        marked.mark(1, true);
        marked.goTo(2);
        forgotten("reverse to a mark", marked, TraceDebugger::reverse, BREAK, 1);
    }

    private static void forgotten(String what, TraceDebugger x, ToIntFunction<TraceDebugger> call, int want, int time) {
        x.goTo(2000);
        check.due(what + ", TRAP", x.step(), TRAP);
        check.due(what + ", noted", x.told(6), 2);
        check.due(what, call.applyAsInt(x), want);
        check.told(what, x, time, 1, 0);
        x.goTo(2000);
        check.due(what + ", and met again", x.step(), TRAP);
    }

    private static void metOnlyWhenTried() {
        check.sentence("2 in a TRAP (that was met");
        int[] trap = Check.l(Op.DIV, 1, 0);
        Consumer<TraceDebugger> steps = x -> {
            x.step();
            x.step();
        };
        Consumer<TraceDebugger> breaks = x -> {
            x.mark(2, true);
            x.go();
        };
        for (Consumer<TraceDebugger> way : List.of(steps, breaks)) {
            TraceDebugger x = behindTwo(trap);
            way.accept(x);
            check.told("before the TRAP", x, 2, 1, 0);
            check.due("the TRAP", x.go(), TRAP);
            check.told("the TRAP", x, 2, 1, 2);
        }
    }

    private static void notNotedByGoTo() {
        check.sentence("a TRAP that is there is not noted");
        for (int time : new int[] {2, 3, 2000}) {
            TraceDebugger x = behindTwo(Check.l(Op.DIV, 1, 0));
            check.due("goTo " + time, x.goTo(time), 2);
            check.told("goTo " + time, x, 2, 1, 0);
            check.due("step", x.step(), TRAP);
        }
    }

    private static void notNotedByGoingBack() {
        check.sentence("Time is the latest one, before this, at which go() would stop");
        TraceDebugger x = Programs.deep(100);
        x.mark(2, true);
        x.goTo(32);
        check.due("TRAP", x.go(), TRAP);
        check.due("reverse leaves out the time of the TRAP itself", x.reverse(), BREAK);
        check.told("reverse", x, 30, 15, 0);
        x.goTo(32);
        check.told("the marked line that is a TRAP comes", x, 32, 16, 0);
    }

    private static void forgottenByBack() {
        check.sentence("(A TRAP that was met at that time is forgotten.)");
        TraceDebugger x = behindTwo(Check.l(Op.DIV, 1, 0));
        x.go();
        check.due("back", x.back(), DONE);
        check.told("back", x, 1, 1, 0);
        check.due("step", x.step(), DONE);
        check.told("come to its time again", x, 2, 1, 0);
        check.due("met again", x.step(), TRAP);
    }

    private static void theEndIsLeftByGoingBack() {
        check.sentence("1 at the END");
        TraceDebugger x = behindTwo(Check.l(Op.HALT, 0, 0));
        x.go();
        check.due("END", x.told(6), 1);
        check.due("back", x.back(), DONE);
        check.told("back", x, 2, 1, 0);
        x.go();
        x.mark(1, true);
        check.due("reverse", x.reverse(), BREAK);
        check.told("reverse", x, 1, 1, 0);
        x.go();
        check.due("goTo", x.goTo(2), 2);
        check.told("goTo", x, 2, 1, 0);
        check.due("END again", x.step(), END);
    }

    private static void theEndIsComeToAgain() {
        check.sentence("Time is that told, or the last one before it that there is");
        for (int time : new int[] {3, 4, 1999, 2000}) {
            TraceDebugger x = behindTwo(Check.l(Op.HALT, 0, 0));
            check.due("goTo " + time, x.goTo(time), 3);
            check.told("goTo " + time, x, 3, 1, 1);
            check.due("goTo again", x.goTo(time), 3);
            check.told("goTo again", x, 3, 1, 1);
            check.due("step", x.step(), END);
        }
    }

    private static void theEndIsKept() {
        check.sentence("KEPT are states with their times");
        TraceDebugger x = behindTwo(Check.l(Op.HALT, 0, 0));
        x.go();
        check.due("kept", Picture.keptOf(x), " 0 1 2 3");
        x.goTo(1);
        x.goTo(3);
        check.told("the END again", x, 3, 1, 1);
        check.due("a TRAP comes to no time", Picture.keptOf(trapped()), " 0 1 2");
    }

    private static TraceDebugger trapped() {
        TraceDebugger x = behindTwo(Check.l(Op.DIV, 1, 0));
        x.go();
        x.go();
        return x;
    }
}
