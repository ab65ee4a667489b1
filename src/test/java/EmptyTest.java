import java.util.function.ToIntFunction;

/** Empty: no line, no output, no mark, no watch, nothing to go back to, nothing kept but time 0. */
public final class EmptyTest {
    private static final int DONE = TraceDebugger.DONE, END = TraceDebugger.END, TRAP = TraceDebugger.TRAP;
    private static final int BEGIN = TraceDebugger.BEGIN;
    private static final Check check = new Check();

    public static void main(String[] args) {
        atFirst();
        noLineIsATrap();
        noLineToMark();
        noTimeToGoTo();
        noOutput();
        nothingToGoBackTo();
        noMarkNorWatch();
        noStopBefore();
        nothingKeptButTimeZero();
        noFrameBefore();
        noLocalHandedOn();
        clearOfNothing();
        check.close();
    }

    private static void atFirst() {
        check.sentence("at first one frame, all 0. TIME is .. at first 0. No lines, no marks; time 0 is kept");
        TraceDebugger x = new TraceDebugger(3);
        StringBuilder want = new StringBuilder("told 0 1 0 1 3 0 0\nkept 0\nframe 0 at 0:");
        for (int i = 0; i < 8; i++) want.append(" 0");
        want.append("\ncells");
        for (int i = 0; i < 64; i++) want.append(" 0");
        want.append("\noutput");
        check.due("a new object", Picture.of(x), want.toString());
        for (int cell = 0; cell < 64; cell++) check.due("watched", x.watch(cell, false), false);
        for (int i = 0; i < 80; i++) {
            x.line(Op.HALT, 0, 0);
            check.due("marked", x.mark(i, false), false);
        }
    }

    private static void noLineIsATrap() {
        check.sentence("A line that there is not is a TRAP");
        noLineIsATrap("step", TraceDebugger::step);
        noLineIsATrap("next", TraceDebugger::next);
        noLineIsATrap("finish", TraceDebugger::finish);
        noLineIsATrap("go", TraceDebugger::go);
    }

    private static void noLineIsATrap(String what, ToIntFunction<TraceDebugger> call) {
        TraceDebugger x = new TraceDebugger(1);
        String before = Picture.of(x);
        check.due(what, call.applyAsInt(x), TRAP);
        check.told(what, x, 0, 1, 2);
        check.due(what + " again", call.applyAsInt(x), TRAP);
        x.goTo(0);
        check.due(what + " changes nothing else", Picture.of(x), before);
    }

    private static void noLineToMark() {
        check.sentence("IndexOutOfBounds: there is no such line");
        TraceDebugger x = new TraceDebugger(1);
        check.refused("mark", x, Check.INDEX, () -> x.mark(0, true));
        check.refused("mark off", x, Check.INDEX, () -> x.mark(0, false));
        x.line(Op.HALT, 0, 0);
        x.clear();
        check.refused("mark behind clear()", x, Check.INDEX, () -> x.mark(0, true));
    }

    private static void noTimeToGoTo() {
        check.sentence("or the last one before it that there is (a TRAP that is there is not noted)");
        for (int time : new int[] {0, 1, 2000}) {
            TraceDebugger x = new TraceDebugger(1);
            String before = Picture.of(x);
            check.due("goTo " + time, x.goTo(time), 0);
            check.due("goTo " + time + " changes nothing", Picture.of(x), before);
        }
    }

    private static void noOutput() {
        check.sentence("IndexOutOfBounds: there is no such .. place");
        TraceDebugger x = Programs.prints(1);
        check.refused("output at first", x, Check.INDEX, () -> x.output(0));
        x.goTo(2);
        check.refused("output before the first PRINT", x, Check.INDEX, () -> x.output(0));
        x.step();
        check.due("output behind it", x.output(0), 1);
        x.back();
        check.due("output is gone", x.told(2), 0);
        check.refused("output before it again", x, Check.INDEX, () -> x.output(0));
    }

    private static void nothingToGoBackTo() {
        TraceDebugger x = Programs.prints(1);
        String before = Picture.of(x);
        check.sentence("BEGIN, if it is 0");
        check.due("back", x.back(), BEGIN);
        check.due("back changes nothing", Picture.of(x), before);
        check.sentence("else it is 0: BEGIN");
        x.mark(0, true);
        check.due("reverse", x.reverse(), BEGIN);
        check.due("reverse changes nothing", Picture.of(x), before);
        check.sentence("Time is that told");
        check.due("goTo", x.goTo(0), 0);
        check.due("goTo changes nothing", Picture.of(x), before);
        check.sentence("Time is one less: DONE");
        x.step();
        check.due("back to time 0", x.back(), DONE);
        check.due("back from time 0", x.back(), BEGIN);
    }

    private static void noMarkNorWatch() {
        check.sentence("Lines are done, one at least, till it stops");
        TraceDebugger x = Check.made(1, Check.l(Op.SET, 0, 1), Check.l(Op.STORE, 0, 0), Check.l(Op.HALT, 0, 0));
        check.due("go", x.go(), END);
        check.due("time", x.told(0), 3);
        x.mark(1, true);
        x.mark(1, false);
        x.watch(1, true);
        x.watch(1, false);
        x.goTo(0);
        check.due("go when they are taken away", x.go(), END);
        check.due("reverse when they are taken away", x.reverse(), BEGIN);
    }

    private static void noStopBefore() {
        check.sentence("before this .. else it is 0: BEGIN");
        for (int time : new int[] {0, 1, 2, 20, 2000}) {
            TraceDebugger x = Programs.loop(3);
            x.goTo(time);
            check.due("reverse from " + time, x.reverse(), BEGIN);
            check.told("reverse from " + time, x, 0, 1, 0);
        }
        TraceDebugger one = Programs.loop(3);
        one.mark(0, true);
        one.step();
        check.due("the time at hand is not before this", one.reverse(), BEGIN);
        check.due("time 0, before which there is no line", one.told(0), 0);
    }

    private static void nothingKeptButTimeZero() {
        check.sentence("time 0 is kept");
        TraceDebugger x = Programs.prints(100);
        x.goTo(99);
        check.due("kept", Picture.keptOf(x), " 0");
        check.due("back", x.back(), DONE);
        check.told("back", x, 98, 1, 0);
        check.due("output", x.told(2), 32);
        check.due("goTo", x.goTo(1), 1);
        check.due("no output", x.told(2), 0);
    }

    private static void noFrameBefore() {
        check.sentence("of the first frame: the END");
        TraceDebugger x = Check.made(1, Check.l(Op.SET, 1, 5), Check.l(Op.RETURN, 1, 0));
        x.step();
        check.due("RETURN", x.step(), END);
        check.told("RETURN", x, 2, 1, 1);
        check.due("no local 0 is written", x.local(0, 0), 0);
        check.due("local 1 is left", x.local(0, 1), 5);
        check.due("no other line comes", x.at(0), 1);
    }

    private static void noLocalHandedOn() {
        check.sentence("whose first b locals (0 .. 8) are those of the frame that calls, others 0");
        TraceDebugger x = Check.made(1, Check.l(Op.SET, 0, 5), Check.l(Op.SET, 7, 6), Check.l(Op.CALL, 0, 0));
        x.goTo(3);
        for (int i = 0; i < 8; i++) check.due("local " + i, x.local(0, i), 0);
        check.due("those of the caller are left", x.local(1, 0) + x.local(1, 7), 11);
    }

    private static void clearOfNothing() {
        check.sentence("as at first");
        TraceDebugger x = new TraceDebugger(3);
        x.clear();
        check.due("clear", Picture.of(x), Picture.of(new TraceDebugger(3)));
        x.go();
        x.clear();
        check.due("clear in a TRAP", Picture.of(x), Picture.of(new TraceDebugger(3)));
        check.due("TRAP", x.step(), TRAP);
    }
}
