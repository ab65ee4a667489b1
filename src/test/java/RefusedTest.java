import java.util.ArrayList;
import java.util.List;
import java.util.function.Function;
import java.util.function.Supplier;

/**
 * A refused call: in many states, each call that the document refuses there throws what is due, and
 * from then on the object answers as one that was never called so.
 */
public final class RefusedTest {
    private record Refusal(String what, Class<? extends RuntimeException> kind, Function<TraceDebugger, Object> call) {}

    private static final int LOW = Integer.MIN_VALUE, HIGH = Integer.MAX_VALUE;
    private static final Check check = new Check();

    public static void main(String[] args) {
        check.sentence("A call that throws changes nothing");
        inState("new", () -> new TraceDebugger(2));
        inState("a TRAP at time 0", RefusedTest::trapAtTimeZero);
        inState("time 0 again", RefusedTest::timeZeroAgain);
        inState("80 lines", RefusedTest::eightyLines);
        inState("80 lines at time 5", () -> at(5, eightyLines()));
        inState("on the way", () -> at(20, busy()));
        inState("gone back", () -> at(3, at(50, busy())));
        inState("the END", RefusedTest::theEnd);
        inState("a TRAP with 16 frames", RefusedTest::trapWithAllFrames);
        inState("a TRAP with all output", RefusedTest::trapWithAllOutput);
        inState("time 2000", () -> at(2000, Programs.loop(1)));
        inState("cleared", RefusedTest::cleared);
        check.close();
    }

    private static TraceDebugger at(int time, TraceDebugger x) {
        x.goTo(time);
        return x;
    }

    private static TraceDebugger busy() {
        TraceDebugger x = Check.made(2, Check.l(Op.SET, 1, 1), Check.l(Op.CALL, 4, 3), Check.l(Op.PRINT, 0, 0),
            Check.l(Op.JUMP, 1, 0), Check.l(Op.ADD, 0, 1), Check.l(Op.STORE, 1, 0), Check.l(Op.RETURN, 0, 0));
        x.poke(3, 9);
        x.mark(2, true);
        x.mark(6, true);
        x.watch(1, true);
        x.watch(63, true);
        return x;
    }

    private static TraceDebugger trapAtTimeZero() {
        TraceDebugger x = new TraceDebugger(2);
        x.watch(0, true);
        x.go();
        return x;
    }

    private static TraceDebugger timeZeroAgain() {
        TraceDebugger x = at(100, busy());
        return at(0, x);
    }

    private static TraceDebugger eightyLines() {
        TraceDebugger x = Programs.eightyLines(1);
        for (int line = 0; line < 80; line += 7) x.mark(line, true);
        return at(0, at(70, x));
    }

    private static TraceDebugger theEnd() {
        TraceDebugger x = Check.made(1, Check.l(Op.SET, 1, 1), Check.l(Op.STORE, 1, 1), Check.l(Op.HALT, 0, 0));
        x.mark(1, true);
        x.watch(1, true);
        return at(9, x);
    }

    private static TraceDebugger trapWithAllFrames() {
        TraceDebugger x = Programs.deep(1);
        x.go();
        return x;
    }

    private static TraceDebugger trapWithAllOutput() {
        TraceDebugger x = Programs.prints(1);
        x.go();
        return x;
    }

    private static TraceDebugger cleared() {
        TraceDebugger x = at(50, busy());
        x.clear();
        return x;
    }

    private static void inState(String state, Supplier<TraceDebugger> made) {
        String future = Future.of(made.get());
        for (Refusal refusal : refusalsIn(made.get())) {
            TraceDebugger x = made.get();
            String what = state + ", " + refusal.what;
            check.due(what, Check.answerOf(() -> refusal.call.apply(x)), refusal.kind.getSimpleName());
            check.due(what + ", from then on", Future.of(x), future);
        }
    }

    private static List<Refusal> refusalsIn(TraceDebugger x) {
        List<Refusal> all = new ArrayList<>();
        refusalsOfLine(all, x.told(0), x.told(5));
        refusalsOfPoke(all, x.told(0));
        for (int line : new int[] {LOW, -1, x.told(5), HIGH}) {
            for (boolean on : new boolean[] {false, true}) {
                all.add(new Refusal("mark(" + line + ", " + on + ")", Check.INDEX, y -> y.mark(line, on)));
            }
        }
        for (int cell : new int[] {LOW, -1, 64, HIGH}) {
            all.add(new Refusal("cell(" + cell + ")", Check.INDEX, y -> y.cell(cell)));
            for (boolean on : new boolean[] {false, true}) {
                all.add(new Refusal("watch(" + cell + ", " + on + ")", Check.INDEX, y -> y.watch(cell, on)));
            }
        }
        for (int time : new int[] {LOW, -1, 2001, HIGH}) {
            all.add(new Refusal("goTo(" + time + ")", Check.ARGUMENT, y -> y.goTo(time)));
        }
        refusalsOfFrames(all, x.told(1));
        for (int i : new int[] {LOW, -1, x.told(2), HIGH}) {
            all.add(new Refusal("output(" + i + ")", Check.INDEX, y -> y.output(i)));
        }
        for (int i : new int[] {LOW, -1, x.told(3), HIGH}) {
            all.add(new Refusal("kept(" + i + ")", Check.INDEX, y -> y.kept(i)));
        }
        return all;
    }

    private static void refusalsOfLine(List<Refusal> all, int time, int lines) {
        int[][] wrong = {{-1, 0, 0}, {13, 0, 0}, {LOW, 0, 0}, {HIGH, 0, 0}, {0, 8, 0}, {0, -1, 0}, {6, 0, 8}, {1, 0, -1},
            {8, 8, 0}, {9, 0, 9}, {9, 0, -1}, {10, -1, 0}, {11, 8, 0}};
        for (int[] l : wrong) {
            String what = "line(" + l[0] + ", " + l[1] + ", " + l[2] + ")";
            all.add(new Refusal(what, Check.ARGUMENT, y -> y.line(l[0], l[1], l[2])));
        }
        if (time != 0) all.add(new Refusal("line(0, 0, 0)", Check.STATE, y -> y.line(0, 0, 0)));
        else if (lines == 80) all.add(new Refusal("line(0, 0, 0)", Check.UNSUPPORTED, y -> y.line(0, 0, 0)));
    }

    private static void refusalsOfPoke(List<Refusal> all, int time) {
        for (int cell : new int[] {LOW, -1, 64, HIGH}) {
            all.add(new Refusal("poke(" + cell + ", 7)", Check.INDEX, y -> y.poke(cell, 7)));
        }
        if (time != 0) all.add(new Refusal("poke(0, 7)", Check.STATE, y -> y.poke(0, 7)));
    }

    private static void refusalsOfFrames(List<Refusal> all, int frames) {
        for (int frame : new int[] {LOW, -1, frames, HIGH}) {
            all.add(new Refusal("at(" + frame + ")", Check.INDEX, y -> y.at(frame)));
            all.add(new Refusal("local(" + frame + ", 0)", Check.INDEX, y -> y.local(frame, 0)));
        }
        for (int local : new int[] {LOW, -1, 8, HIGH}) {
            all.add(new Refusal("local(0, " + local + ")", Check.INDEX, y -> y.local(0, local)));
            all.add(new Refusal("local(last, " + local + ")", Check.INDEX, y -> y.local(frames - 1, local)));
        }
    }
}
