import java.util.function.Consumer;

/** Keeping anew: behind line(), poke() and clear() only time 0 is kept, with the first SPACING, and nothing else does that. */
public final class AnewTest {
    private static final int BEGIN = TraceDebugger.BEGIN, DONE = TraceDebugger.DONE, END = TraceDebugger.END;
    private static final Check check = new Check();

    public static void main(String[] args) {
        linesAndPokes();
        fromEachSpacing();
        backAtTimeZeroInEachWay();
        theOneBefore();
        oldStatesAreNotUsed();
        oldTrapsAreLines();
        othersLeaveIt();
        theFarthestTimeAgain();
        clearHasTheFirstSpacing();
        check.close();
    }

    private static void linesAndPokes() {
        check.sentence("Only time 0 is kept then, with the first SPACING, and all is come to for the first time again");
        anew("line", x -> x.line(Op.SET, 0, 0));
        anew("poke", x -> x.poke(0, 1));
        anew("poke of the value that is there", x -> x.poke(0, 0));
        anew("poke of the last cell", x -> x.poke(63, Integer.MIN_VALUE));
    }

    /** Behind 1 to 8 kept states, and behind SPACING that is twice and four times as much. */
    private static void anew(String what, Consumer<TraceDebugger> call) {
        for (int before : new int[] {0, 1, 2, 3, 20, 21, 23, 24, 25, 47, 48, 49, 2000}) {
            TraceDebugger x = Programs.loop(3);
            x.goTo(before);
            x.goTo(0);
            call.accept(x);
            String behind = what + " behind time " + before;
            check.due(behind, Picture.keptOf(x), " 0");
            check.due(behind + ", SPACING", x.told(4), 3);
            check.told(behind, x, 0, 1, 0);
            x.goTo(2);
            check.due(behind + ", time 2", Picture.keptOf(x), " 0");
            x.step();
            check.due(behind + ", time 3", Picture.keptOf(x), " 0 3");
            x.goTo(23);
            check.due(behind + ", time 23", Picture.keptOf(x), " 0 3 6 9 12 15 18 21");
            x.step();
            check.due(behind + ", time 24", Picture.keptOf(x), " 0 6 12 18 24");
            check.due(behind + ", SPACING at time 24", x.told(4), 6);
        }
    }

    private static void fromEachSpacing() {
        check.sentence("with the first SPACING");
        int[][] pairs = {{Integer.MIN_VALUE, 1}, {0, 1}, {1, 1}, {2, 2}, {99, 99}, {100, 100}, {101, 100}, {Integer.MAX_VALUE, 100}};
        for (int[] pair : pairs) {
            TraceDebugger x = Programs.loop(pair[0]);
            x.goTo(2000);
            check.due("more than at first", x.told(4) > pair[1], true);
            x.goTo(0);
            check.due("going back leaves it", x.told(4) > pair[1], true);
            x.poke(0, 0);
            check.due("poke, made with " + pair[0], x.told(4), pair[1]);
            x.goTo(2000);
            x.goTo(0);
            x.line(Op.HALT, 0, 0);
            check.due("line, made with " + pair[0], x.told(4), pair[1]);
        }
    }

    private static void backAtTimeZeroInEachWay() {
        check.sentence("IllegalState: time is not 0");
        TraceDebugger x = Programs.loop(1);
        x.step();
        check.refused("line at time 1", x, Check.STATE, () -> x.line(Op.HALT, 0, 0));
        check.refused("poke at time 1", x, Check.STATE, () -> x.poke(0, 1));
        check.due("back", x.back(), DONE);
        check.due("line behind back()", x.line(Op.HALT, 0, 0), 1);
        x.step();
        check.due("reverse", x.reverse(), BEGIN);
        check.due("poke behind reverse()", x.poke(0, 1), 0);
        x.goTo(2000);
        check.refused("line at time 2000", x, Check.STATE, () -> x.line(Op.HALT, 0, 0));
        x.goTo(0);
        check.due("line behind goTo()", x.line(Op.HALT, 0, 0), 2);
        TraceDebugger end = Check.made(1, Check.l(Op.HALT, 0, 0));
        end.go();
        check.refused("line at the END", end, Check.STATE, () -> end.line(Op.HALT, 0, 0));
        check.refused("poke at the END", end, Check.STATE, () -> end.poke(0, 1));
        end.clear();
        check.due("line behind clear()", end.line(Op.HALT, 0, 0), 0);
    }

    private static void theOneBefore() {
        check.sentence("A cell's value at time 0: the one before");
        TraceDebugger x = Check.made(2, Check.l(Op.SET, 1, 5), Check.l(Op.STORE, 2, 1), Check.l(Op.HALT, 0, 0));
        check.due("at first", x.poke(0, 3), 0);
        check.due("END", x.go(), END);
        check.due("the program's", x.cell(0), 5);
        x.goTo(0);
        check.due("at time 0 again", x.cell(0), 3);
        check.due("the one before is that of time 0", x.poke(0, 4), 3);
        check.due("no other cell", x.cell(1), 0);
        x.goTo(1);
        check.due("at time 1", x.cell(0), 4);
        x.back();
        check.due("from the state that is kept", x.cell(0), 4);
    }

    private static void oldStatesAreNotUsed() {
        check.sentence("all is come to for the first time again");
        TraceDebugger x = Check.made(1, Check.l(Op.LOAD, 1, 7), Check.l(Op.ADD, 2, 1), Check.l(Op.PRINT, 2, 0),
            Check.l(Op.JUMP, 1, 0));
        for (int value = 1; value <= 3; value++) {
            x.poke(0, value);
            x.goTo(100);
            for (int time : new int[] {99, 50, 64, 63, 32, 3, 7}) {
                x.goTo(time);
                int rounds = (time + 1) / 3;
                check.due("local 2 of time " + time, x.local(0, 2), value * rounds);
                check.due("output of time " + time, x.told(2), time / 3);
                check.due("its last", x.output(time / 3 - 1), value * (time / 3));
            }
            x.goTo(0);
        }
    }

    private static void oldTrapsAreLines() {
        check.sentence("A new line behind all others");
        TraceDebugger x = Check.made(1, Check.l(Op.SET, 0, 1));
        check.due("a TRAP behind it", x.goTo(9), 1);
        x.goTo(0);
        check.due("one more", x.line(Op.SET, 0, 2), 1);
        check.due("the TRAP is one later", x.goTo(9), 2);
        check.due("it is done", x.local(0, 0), 2);
        x.goTo(0);
        check.due("HALT", x.line(Op.HALT, 0, 0), 2);
        check.due("go", x.go(), END);
        check.told("go", x, 3, 1, 1);
    }

    private static void othersLeaveIt() {
        check.sentence("when it is come to for the first time");
        TraceDebugger x = Programs.loop(1);
        x.goTo(9);
        String kept = Picture.keptOf(x);
        check.due("kept", kept, " 0 2 4 6 8");
        x.mark(0, true);
        x.watch(0, true);
        check.due("mark and watch", Picture.keptOf(x), kept);
        x.back();
        x.reverse();
        x.goTo(3);
        x.goTo(0);
        check.due("back, reverse and goTo", Picture.keptOf(x), kept);
        x.step();
        x.next();
        x.go();
        x.mark(0, false);
        x.goTo(9);
        check.due("what was come to before", Picture.keptOf(x), kept);
        check.refused("line that is refused", x, Check.STATE, () -> x.line(Op.HALT, 0, 0));
        check.refused("poke that is refused", x, Check.STATE, () -> x.poke(0, 0));
        x.step();
        check.due("what was not", Picture.keptOf(x), kept + " 10");
    }

    private static void theFarthestTimeAgain() {
        check.sentence("when it is come to for the first time");
        TraceDebugger x = Programs.loop(2);
        x.goTo(4);
        for (int times = 0; times < 3; times++) {
            check.due("back", x.back(), DONE);
            check.due("kept when it is left", Picture.keptOf(x), " 0 2 4");
            check.due("step", x.step(), DONE);
            check.due("kept when it is come to again", Picture.keptOf(x), " 0 2 4");
        }
        x.goTo(0);
        x.goTo(6);
        check.due("and one more", Picture.keptOf(x), " 0 2 4 6");
    }

    private static void clearHasTheFirstSpacing() {
        check.sentence("as at first");
        for (int spacing : new int[] {-7, 1, 3, 100, 1000}) {
            TraceDebugger x = Programs.loop(spacing);
            x.goTo(2000);
            x.clear();
            check.due("clear, made with " + spacing, Picture.of(x), Picture.of(new TraceDebugger(spacing)));
            x.line(Op.JUMP, 0, 0);
            x.goTo(1000);
            TraceDebugger other = Programs.loop(spacing);
            other.goTo(1000);
            check.due("and from then on", Picture.of(x), Picture.of(other));
        }
    }
}
