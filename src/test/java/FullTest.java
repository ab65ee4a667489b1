/** Full: as many lines, frames, output, kept states, and as much time as there may be, and one more. */
public final class FullTest {
    private static final int DONE = TraceDebugger.DONE, BREAK = TraceDebugger.BREAK, WATCH = TraceDebugger.WATCH;
    private static final int END = TraceDebugger.END, TRAP = TraceDebugger.TRAP, OUT = TraceDebugger.OUT;
    private static final Check check = new Check();

    public static void main(String[] args) {
        lines();
        linesBehindClear();
        linesAreAllReached();
        marksOnAllLines();
        watchesOnAllCells();
        frames();
        framesComeAndGo();
        localsHandedOn();
        output();
        outputAfterGoingBack();
        keptStates();
        keptStatesOfEachSpacing();
        keptStatesAreUsed();
        time();
        timeFromEachSide();
        clearOfAllThatIsFull();
        check.close();
    }

    private static void lines() {
        check.sentence("LINES have numbers 0, 1, .., 80 at most. UnsupportedOperation: there would be more than there may be");
        TraceDebugger x = new TraceDebugger(1);
        for (int i = 0; i < 80; i++) check.due("line " + i, x.line(Op.SET, 0, i), i);
        check.due("lines", x.told(5), 80);
        check.refused("one more", x, Check.UNSUPPORTED, () -> x.line(Op.SET, 0, 0));
        check.refused("and again", x, Check.UNSUPPORTED, () -> x.line(Op.HALT, 0, 0));
        check.refused("no line has number 80", x, Check.INDEX, () -> x.mark(80, true));
        check.due("go", x.go(), TRAP);
        check.told("all are done", x, 80, 1, 2);
        check.due("the last one", x.local(0, 0), 79);
        check.due("the line that there is not", x.at(0), 80);
        x.goTo(0);
        check.refused("full at time 0 again", x, Check.UNSUPPORTED, () -> x.line(Op.SET, 0, 0));
        check.due("poke is no line", x.poke(0, 1), 0);
    }

    private static void linesBehindClear() {
        check.sentence("clear: No lines .. as at first");
        TraceDebugger x = Programs.eightyLines(1);
        x.clear();
        for (int i = 0; i < 80; i++) check.due("line " + i, x.line(Op.SET, 0, 2 * i), i);
        check.refused("one more", x, Check.UNSUPPORTED, () -> x.line(Op.SET, 0, 0));
        x.goTo(80);
        check.due("the new ones are done", x.local(0, 0), 158);
    }

    private static void linesAreAllReached() {
        check.sentence("JUMP to line a");
        for (int line : new int[] {0, 1, 79, 80}) {
            TraceDebugger x = new TraceDebugger(1);
            x.line(Op.JUMP, line, 0);
            for (int i = 1; i < 80; i++) x.line(Op.SET, 0, i);
            x.step();
            check.due("JUMP to " + line, x.step(), line < 80 ? DONE : TRAP);
            check.due("what was done there", x.local(0, 0), line < 80 ? line : 0);
        }
    }

    private static void marksOnAllLines() {
        check.sentence("BREAK 1 (the line that comes is marked)");
        TraceDebugger x = Programs.eightyLines(100);
        for (int i = 0; i < 80; i++) check.due("mark " + i, x.mark(i, true), true);
        for (int i = 1; i < 80; i++) {
            check.due("go to " + i, x.go(), BREAK);
            check.due("at", x.at(0), i);
        }
        check.due("behind them", x.go(), TRAP);
        for (int i = 79; i >= 1; i--) {
            check.due("reverse to " + i, x.reverse(), BREAK);
            check.due("time", x.told(0), i);
        }
        check.due("before them", x.reverse(), TraceDebugger.BEGIN);
    }

    private static void watchesOnAllCells() {
        check.sentence("WATCH 2 (a watched cell has another value behind the line that was done)");
        TraceDebugger x = Check.made(100, Check.l(Op.SET, 1, 1), Check.l(Op.STORE, 0, 1), Check.l(Op.ADD, 0, 1),
            Check.l(Op.JUMP, 1, 0));
        for (int cell = 0; cell < 64; cell++) check.due("watch " + cell, x.watch(cell, true), true);
        for (int cell = 0; cell < 64; cell++) {
            check.due("go to the change of " + cell, x.go(), WATCH);
            check.told("the change", x, 2 + 3 * cell, 1, 0);
            check.due("changed", x.cell(cell), 1);
        }
        check.due("no cell 64", x.go(), TRAP);
        for (int cell = 63; cell >= 0; cell--) {
            check.due("reverse to the change of " + cell, x.reverse(), WATCH);
            check.due("time", x.told(0), 2 + 3 * cell);
        }
    }

    private static void frames() {
        check.sentence("CALL: TRAP if there are 16");
        TraceDebugger x = Programs.deep(100);
        check.due("go", x.go(), TRAP);
        check.told("16 frames", x, 32, 16, 2);
        check.due("the CALL is not done", x.at(0), 2);
        for (int frame = 1; frame < 16; frame++) check.due("waits behind its CALL", x.at(frame), 3);
        for (int frame = 0; frame < 16; frame++) check.due("local 1 of " + frame, x.local(frame, 1), 16 - frame);
        check.refused("no frame 16", x, Check.INDEX, () -> x.at(16));
        x.goTo(30);
        check.due("15 frames", x.told(1), 15);
        check.due("the CALL of the 16th", x.step(), DONE);
        check.due("16 frames", x.told(1), 16);
        x.goTo(32);
        check.due("next over a CALL that can't be", x.next(), TRAP);
    }

    /** Fills all 16 frames, leaves them all, and fills them again: the room of frames that are gone is used again. */
    private static void framesComeAndGo() {
        check.sentence("the frame goes, and the one before it has in its local 0 what was in local a");
        TraceDebugger x = Check.made(7, Check.l(Op.SET, 1, 15), Check.l(Op.SET, 2, 1), Check.l(Op.CALL, 5, 8),
            Check.l(Op.PRINT, 0, 0), Check.l(Op.JUMP, 2, 0), Check.l(Op.SUB, 1, 2), Check.l(Op.TEST, 1, 9),
            Check.l(Op.CALL, 5, 3), Check.l(Op.ADD, 0, 2), Check.l(Op.RETURN, 0, 0));
        x.goTo(2);
        check.due("over 15 frames and back", x.next(), DONE);
        check.told("over 15 frames and back", x, 76, 1, 0);
        check.due("each one but the last added 1", x.local(0, 0), 14);
        check.due("PRINT", x.step(), DONE);
        x.step();
        check.due("again", x.next(), DONE);
        check.due("from what was there", x.local(0, 0), 28);
        x.mark(9, true);
        x.goTo(3);
        check.due("to the deepest", x.go(), BREAK);
        check.due("16 frames", x.told(1), 16);
        for (int frame = 15; frame >= 1; frame--) {
            check.due("finish", x.finish(), DONE);
            check.due("frames left", x.told(1), frame);
            if (frame > 1) check.due("to the RETURN", x.go(), BREAK);
        }
    }

    private static void localsHandedOn() {
        check.sentence("whose first b locals (0 .. 8) are those of the frame that calls, others 0");
        for (int handed = 0; handed <= 8; handed++) {
            int[][] lines = new int[9][];
            for (int i = 0; i < 8; i++) lines[i] = Check.l(Op.SET, i, i + 1);
            lines[8] = Check.l(Op.CALL, 8, handed);
            TraceDebugger x = Check.made(100, lines);
            check.due("go", x.go(), TRAP);
            check.told("16 frames", x, 23, 16, 2);
            for (int frame = 0; frame < 15; frame++) {
                for (int i = 0; i < 8; i++) check.due("local", x.local(frame, i), i < handed ? i + 1 : 0);
            }
        }
    }

    private static void output() {
        check.sentence("OUTPUT, of 200 at most; TRAP if there are so many");
        TraceDebugger x = Programs.prints(100);
        x.goTo(599);
        check.due("199", x.told(2), 199);
        check.due("the last PRINT", x.step(), DONE);
        check.due("200", x.told(2), 200);
        check.due("what it printed", x.output(199), 200);
        check.due("go", x.go(), TRAP);
        check.told("one more", x, 602, 1, 2);
        check.due("still 200", x.told(2), 200);
        for (int i = 0; i < 200; i++) check.due("output " + i, x.output(i), i + 1);
        check.refused("no place 200", x, Check.INDEX, () -> x.output(200));
        check.due("goTo beyond it", x.goTo(2000), 602);
        check.due("not noted", x.told(6), 0);
    }

    private static void outputAfterGoingBack() {
        check.sentence("A cell's value at time 0 .. PRINT: local a comes to the OUTPUT");
        TraceDebugger x = Check.made(100, Check.l(Op.LOAD, 0, 1), Check.l(Op.PRINT, 0, 0), Check.l(Op.JUMP, 1, 0));
        for (int value : new int[] {5, 6}) {
            x.poke(0, value);
            check.due("go", x.go(), TRAP);
            check.due("200", x.told(2), 200);
            check.due("the first", x.output(0), value);
            check.due("the last", x.output(199), value);
            x.goTo(0);
            check.due("none at time 0", x.told(2), 0);
        }
    }

    private static void keptStates() {
        check.sentence("if 8 are kept then: first every second one of them goes (the second, the fourth, ..),"
            + " SPACING is twice as much, and this one is kept only if that divides its time");
        String[][] want = {{"69", "10 : 0 10 20 30 40 50 60"}, {"70", "10 : 0 10 20 30 40 50 60 70"},
            {"79", "10 : 0 10 20 30 40 50 60 70"}, {"80", "20 : 0 20 40 60 80"}, {"90", "20 : 0 20 40 60 80"},
            {"100", "20 : 0 20 40 60 80 100"}, {"159", "20 : 0 20 40 60 80 100 120 140"}, {"160", "40 : 0 40 80 120 160"},
            {"180", "40 : 0 40 80 120 160"}, {"319", "40 : 0 40 80 120 160 200 240 280"}, {"320", "80 : 0 80 160 240 320"},
            {"640", "160 : 0 160 320 480 640"}, {"1279", "160 : 0 160 320 480 640 800 960 1120"},
            {"1280", "320 : 0 320 640 960 1280"}, {"2000", "320 : 0 320 640 960 1280 1600 1920"}};
        TraceDebugger x = Programs.loop(10);
        for (String[] row : want) {
            x.goTo(Integer.parseInt(row[0]));
            check.due("time " + row[0], x.told(4) + " :" + Picture.keptOf(x), row[1]);
        }
    }

    /** For every SPACING: at each time at which another state may be kept, and just before it. */
    private static void keptStatesOfEachSpacing() {
        check.sentence("each time that SPACING divides .. when it is come to for the first time");
        for (int first = 1; first <= 100; first++) {
            int spacing = first;
            for (int time = first; time <= 2000; time += spacing) {
                if (time == 8 * spacing) {
                    keptAt(first, time - 1, spacing);
                    spacing *= 2;
                }
                keptAt(first, time, spacing);
            }
            keptAt(first, 2000, spacing);
        }
    }

    private static void keptAt(int first, int time, int spacing) {
        TraceDebugger x = Programs.loop(first);
        x.goTo(time);
        StringBuilder want = new StringBuilder();
        for (int t = 0; t <= time; t += spacing) want.append(' ').append(t);
        String what = "SPACING " + first + " at time " + time;
        check.due(what, Picture.keptOf(x), want.toString());
        check.due(what + ", now", x.told(4), spacing);
        check.due(what + ", states", x.told(3), 1 + time / spacing);
    }

    /** Goes back to the times that were kept and round about them, when most of the states that were kept are gone. */
    private static void keptStatesAreUsed() {
        check.sentence("going back is going forward again from a state that was kept");
        TraceDebugger x = Check.made(1, Check.l(Op.SET, 1, 1), Check.l(Op.ADD, 0, 1), Check.l(Op.JUMP, 1, 0));
        x.goTo(2000);
        String kept = Picture.keptOf(x);
        check.due("kept", kept, " 0 256 512 768 1024 1280 1536 1792");
        for (int i = 7; i >= 0; i--) {
            for (int time = 256 * i + 1; time >= Math.max(0, 256 * i - 1); time--) {
                check.due("goTo " + time, x.goTo(time), time);
                check.due("local 0 at " + time, x.local(0, 0), time / 2);
            }
        }
        check.due("going back leaves them", Picture.keptOf(x), kept);
        x.goTo(2000);
        check.due("going on does too", Picture.keptOf(x), kept);
    }

    private static void time() {
        check.sentence("At time 2000 nothing is done either: it is OUT");
        TraceDebugger x = Programs.loop(1);
        check.due("go", x.go(), OUT);
        check.told("go", x, 2000, 1, 0);
        String before = Picture.of(x);
        check.due("step", x.step(), OUT);
        check.due("next", x.next(), OUT);
        check.due("finish", x.finish(), OUT);
        check.due("go", x.go(), OUT);
        check.due("goTo", x.goTo(2000), 2000);
        check.due("nothing is done", Picture.of(x), before);
        check.refused("no line", x, Check.STATE, () -> x.line(Op.HALT, 0, 0));
        check.refused("no poke", x, Check.STATE, () -> x.poke(0, 0));
        check.due("back", x.back(), DONE);
        check.due("time", x.told(0), 1999);
    }

    private static void timeFromEachSide() {
        check.sentence("BREAK and OUT not, but OUT if it can't be done for that");
        TraceDebugger x = Programs.loop(100);
        x.goTo(1998);
        check.due("step to 1999", x.step(), DONE);
        check.due("step to 2000", x.step(), DONE);
        check.due("step at 2000", x.step(), OUT);
        x.mark(0, true);
        check.due("reverse from 2000", x.reverse(), BREAK);
        check.due("time", x.told(0), 1999);
        check.due("step to a mark at 2000", x.step(), DONE);
        check.due("the END at 2000", Programs.lastly(Check.l(Op.HALT, 0, 0)).goTo(2000), 2000);
    }

    private static void clearOfAllThatIsFull() {
        check.sentence("No lines, no marks, cells 0: as at first");
        TraceDebugger[] full = {Programs.eightyLines(6), Programs.deep(6), Programs.prints(6), Programs.loop(6)};
        for (TraceDebugger x : full) {
            for (int cell = 0; cell < 64; cell++) x.poke(cell, cell + 1);
            x.go();
            for (int cell = 0; cell < 64; cell++) x.watch(cell, true);
            for (int line = 0; line < x.told(5); line++) x.mark(line, true);
            x.clear();
            check.due("clear", Picture.of(x), Picture.of(new TraceDebugger(6)));
            for (int cell = 0; cell < 64; cell++) check.due("no watch", x.watch(cell, false), false);
            for (int line = 0; line < 80; line++) {
                x.line(Op.JUMP, line, 0);
                check.due("no mark", x.mark(line, false), false);
            }
            x.goTo(48);
            check.due("all is come to for the first time again", Picture.keptOf(x), " 0 12 24 36 48");
        }
        TraceDebugger end = Check.made(6, Check.l(Op.HALT, 0, 0));
        check.due("go", end.go(), END);
        end.clear();
        check.due("clear at the END", Picture.of(end), Picture.of(new TraceDebugger(6)));
    }
}
