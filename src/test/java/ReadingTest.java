/** Promises 13 to 18: local, at, cell, output, kept, told; and which states are kept. */
public final class ReadingTest {
    private static final int[] WRONG = {-1, Integer.MIN_VALUE, Integer.MAX_VALUE};
    private static final Check check = new Check();

    public static void main(String[] args) {
        locals();
        lines();
        cells();
        outputs();
        keptAtSpacings();
        keptGetsSparser();
        keptOnceOnly();
        keptEnd();
        keptPlaces();
        tellings();
        trapsTold();
        check.close();
    }

    /** Three frames: 0 SET 1 to 5, 1 CALL 3, 2 HALT, 3 SET 2 to 6, 4 CALL 6, 5 RETURN, 6 SET 3 to 7, 7 RETURN. */
    private static TraceDebugger frames() {
        return Check.made(1, Check.l(0, 1, 5), Check.l(9, 3, 0), Check.l(12, 0, 0), Check.l(0, 2, 6),
            Check.l(9, 6, 3), Check.l(10, 2, 0), Check.l(0, 3, 7), Check.l(10, 3, 0));
    }

    private static void locals() {
        TraceDebugger x = frames();
        x.goTo(5);
        int[][] want = {{0, 0, 6, 7, 0, 0, 0, 0}, {0, 0, 6, 0, 0, 0, 0, 0}, {0, 5, 0, 0, 0, 0, 0, 0}};
        for (int frame = 0; frame < 3; frame++) {
            for (int i = 0; i < 8; i++) check.due("local " + i + " of " + frame, x.local(frame, i), want[frame][i]);
        }
        for (int wrong : WRONG) {
            check.refused("frame " + wrong, x, Check.INDEX, () -> x.local(wrong, 0));
            check.refused("local " + wrong, x, Check.INDEX, () -> x.local(0, wrong));
        }
        check.refused("frame 3", x, Check.INDEX, () -> x.local(3, 0));
        check.refused("local 8", x, Check.INDEX, () -> x.local(0, 8));
        check.refused("local 8 of a frame that waits", x, Check.INDEX, () -> x.local(2, 8));
        x.step();
        check.due("what was in local 3", x.local(0, 0), 7);
        check.refused("the frame that is gone", x, Check.INDEX, () -> x.local(2, 0));
    }

    private static void lines() {
        TraceDebugger x = frames();
        x.goTo(5);
        check.due("the last frame", x.at(0), 7);
        check.due("one that waits", x.at(1), 5);
        check.due("the first one", x.at(2), 2);
        for (int wrong : WRONG) check.refused("at " + wrong, x, Check.INDEX, () -> x.at(wrong));
        check.refused("at 3", x, Check.INDEX, () -> x.at(3));
        x.step();
        check.due("behind the call", x.at(0), 5);
        check.refused("at 2", x, Check.INDEX, () -> x.at(2));
    }

    private static void cells() {
        TraceDebugger x = Check.made(1, Check.l(0, 0, 63), Check.l(6, 0, 0), Check.l(0, 0, 0), Check.l(0, 1, 4),
            Check.l(6, 0, 1));
        x.poke(63, 2);
        check.due("poked", x.cell(63), 2);
        x.goTo(5);
        check.due("the first", x.cell(0), 4);
        check.due("the last", x.cell(63), 63);
        check.due("another", x.cell(1), 0);
        x.goTo(1);
        check.due("as it was", x.cell(63), 2);
        for (int wrong : WRONG) check.refused("cell " + wrong, x, Check.INDEX, () -> x.cell(wrong));
        check.refused("cell 64", x, Check.INDEX, () -> x.cell(64));
    }

    private static void outputs() {
        TraceDebugger x = Check.made(1, Check.l(0, 0, 5), Check.l(11, 0, 0), Check.l(0, 0, -6), Check.l(11, 0, 0));
        x.goTo(4);
        check.due("the first", x.output(0), 5);
        check.due("the second", x.output(1), -6);
        check.refused("no third", x, Check.INDEX, () -> x.output(2));
        for (int wrong : WRONG) check.refused("output " + wrong, x, Check.INDEX, () -> x.output(wrong));
        x.goTo(3);
        check.due("output goes when time goes back", x.told(2), 1);
        check.refused("no second any more", x, Check.INDEX, () -> x.output(1));
        TraceDebugger poked = Check.made(1, Check.l(5, 0, 0), Check.l(11, 0, 0));
        poked.poke(0, 1);
        poked.goTo(2);
        poked.goTo(0);
        poked.poke(0, 2);
        poked.goTo(2);
        check.due("another output behind another poke", poked.output(0), 2);
    }

    private static TraceDebugger loop(int spacing) {
        return Check.made(spacing, Check.l(7, 0, 0));
    }

    private static void keptAtSpacings() {
        TraceDebugger x = loop(5);
        String[] want = {" 0", " 0", " 0", " 0", " 0", " 0 5", " 0 5", " 0 5", " 0 5", " 0 5", " 0 5 10"};
        for (String kept : want) {
            check.due("kept at time " + x.told(0), Picture.keptOf(x), kept);
            x.step();
        }
    }

    private static void keptGetsSparser() {
        TraceDebugger x = loop(1);
        int[] times = {7, 8, 9, 10, 14, 15, 16, 28, 32, 2000};
        String[] want = {" 0 1 2 3 4 5 6 7", " 0 2 4 6 8", " 0 2 4 6 8", " 0 2 4 6 8 10", " 0 2 4 6 8 10 12 14",
            " 0 2 4 6 8 10 12 14", " 0 4 8 12 16", " 0 4 8 12 16 20 24 28", " 0 8 16 24 32",
            " 0 256 512 768 1024 1280 1536 1792"};
        int[] spacings = {1, 2, 2, 2, 2, 2, 4, 4, 8, 256};
        for (int i = 0; i < times.length; i++) {
            x.goTo(times[i]);
            check.due("kept at time " + times[i], Picture.keptOf(x), want[i]);
            check.due("spacing at time " + times[i], x.told(4), spacings[i]);
            check.due("how many at time " + times[i], x.told(3), want[i].split(" ").length - 1);
        }
        TraceDebugger wide = loop(100);
        wide.go();
        check.due("kept at 2000", Picture.keptOf(wide), " 0 400 800 1200 1600 2000");
    }

    private static void keptOnceOnly() {
        TraceDebugger x = loop(1);
        x.goTo(8);
        x.goTo(0);
        x.goTo(8);
        check.due("times 1, 3, 5 are not kept again", Picture.keptOf(x), " 0 2 4 6 8");
        x.goTo(3);
        x.back();
        x.reverse();
        check.due("nor does one go", Picture.keptOf(x), " 0 2 4 6 8");
        x.goTo(9);
        x.step();
        check.due("a later one is", Picture.keptOf(x), " 0 2 4 6 8 10");
        TraceDebugger trap = Check.made(1, Check.l(0, 0, 0));
        trap.go();
        trap.go();
        check.due("a TRAP comes to no time", Picture.keptOf(trap), " 0 1");
    }

    private static void keptEnd() {
        TraceDebugger x = Check.made(2, Check.l(0, 0, 0), Check.l(12, 0, 0));
        x.go();
        check.due("the END is kept", Picture.keptOf(x), " 0 2");
        x.goTo(0);
        x.goTo(2);
        check.due("and is the END still", x.told(6), 1);
    }

    private static void keptPlaces() {
        TraceDebugger x = loop(3);
        x.goTo(7);
        check.due("the first", x.kept(0), 0);
        check.due("the last", x.kept(2), 6);
        check.refused("kept 3", x, Check.INDEX, () -> x.kept(3));
        for (int wrong : WRONG) check.refused("kept " + wrong, x, Check.INDEX, () -> x.kept(wrong));
        x.goTo(24);
        check.refused("kept 8", x, Check.INDEX, () -> x.kept(8));
    }

    private static void tellings() {
        TraceDebugger x = Check.made(4, Check.l(11, 0, 0), Check.l(9, 2, 0), Check.l(11, 0, 0), Check.l(12, 0, 0));
        x.goTo(3);
        int[] want = {3, 2, 2, 1, 4, 4, 0};
        for (int what = 0; what < want.length; what++) check.due("told " + what, x.told(what), want[what]);
        x.step();
        int[] ended = {4, 2, 2, 2, 4, 4, 1};
        for (int what = 0; what < ended.length; what++) check.due("told at the END " + what, x.told(what), ended[what]);
        for (int what : new int[] {-1, 7, 8, Integer.MIN_VALUE, Integer.MAX_VALUE}) {
            check.due("told " + what, x.told(what), TraceDebugger.NONE);
        }
    }

    private static void trapsTold() {
        TraceDebugger x = Check.made(4, Check.l(0, 0, 0), Check.l(4, 0, 0));
        x.step();
        check.due("a TRAP that was not met", x.told(6), 0);
        x.step();
        check.due("met", x.told(6), 2);
        x.mark(0, true);
        x.watch(0, true);
        check.due("marks and watches leave it", x.told(6), 2);
        x.goTo(1);
        check.due("forgotten", x.told(6), 0);
    }
}
