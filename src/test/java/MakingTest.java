/** Promises 1 to 5 and 19: a new object, line, poke, mark, watch, clear. */
public final class MakingTest {
    private static final Check check = new Check();

    public static void main(String[] args) {
        aNewObject();
        spacings();
        linesAreNumbered();
        wrongOperationsAndLocals();
        edgesOfLocals();
        linesOnlyAtTimeZero();
        eightyLines();
        theFirstOfSeveral();
        linesStartTheKeepingAnew();
        pokes();
        pokesStartTheKeepingAnew();
        marks();
        watches();
        aTrapOutlastsLinesAndPokes();
        cleared();
        check.close();
    }

    private static void aNewObject() {
        TraceDebugger x = new TraceDebugger(7);
        int[] want = {0, 1, 0, 1, 7, 0, 0};
        for (int what = 0; what < want.length; what++) check.due("new, told " + what, x.told(what), want[what]);
        check.due("new, kept", Picture.keptOf(x), " 0");
        check.due("new, at", x.at(0), 0);
        for (int i = 0; i < 8; i++) check.due("new, local", x.local(0, i), 0);
        for (int i = 0; i < 64; i++) check.due("new, cell", x.cell(i), 0);
        check.refused("new, no output", x, Check.INDEX, () -> x.output(0));
        check.refused("new, no line to mark", x, Check.INDEX, () -> x.mark(0, true));
        check.due("new, no watches", x.watch(63, false), false);
    }

    private static void spacings() {
        int[][] pairs = {{1, 1}, {2, 2}, {99, 99}, {100, 100}, {0, 1}, {-1, 1}, {101, 100}, {5000, 100},
            {Integer.MIN_VALUE, 1}, {Integer.MAX_VALUE, 100}};
        for (int[] pair : pairs) check.due("spacing " + pair[0], new TraceDebugger(pair[0]).told(4), pair[1]);
    }

    private static void linesAreNumbered() {
        TraceDebugger x = new TraceDebugger(1);
        for (int operation = 0; operation <= 12; operation++) {
            check.due("line of operation " + operation, x.line(operation, 0, 0), operation);
            check.due("lines", x.told(5), operation + 1);
        }
    }

    private static void wrongOperationsAndLocals() {
        TraceDebugger x = Check.made(1, Check.l(0, 0, 0));
        for (int operation : new int[] {-1, 13, 100, Integer.MIN_VALUE, Integer.MAX_VALUE}) {
            check.refused("operation " + operation, x, Check.ARGUMENT, () -> x.line(operation, 0, 0));
        }
        for (int wrong : new int[] {-1, 8, Integer.MIN_VALUE, Integer.MAX_VALUE}) {
            for (int operation : new int[] {0, 1, 2, 3, 4, 5, 6, 8, 10, 11}) {
                check.refused("a of " + operation, x, Check.ARGUMENT, () -> x.line(operation, wrong, 0));
            }
            for (int operation = 1; operation <= 6; operation++) {
                int of = operation;
                check.refused("b of " + of, x, Check.ARGUMENT, () -> x.line(of, 0, wrong));
            }
        }
        for (int wrong : new int[] {-1, 9, Integer.MIN_VALUE, Integer.MAX_VALUE}) {
            check.refused("b of 9", x, Check.ARGUMENT, () -> x.line(9, 0, wrong));
        }
    }

    private static void edgesOfLocals() {
        int low = Integer.MIN_VALUE;
        int high = Integer.MAX_VALUE;
        int[][] lines = {Check.l(0, 7, low), Check.l(0, 0, high), Check.l(1, 7, 7), Check.l(2, 7, 7), Check.l(3, 7, 7),
            Check.l(4, 7, 7), Check.l(5, 7, 7), Check.l(6, 7, 7), Check.l(7, low, high), Check.l(7, high, low),
            Check.l(8, 7, low), Check.l(8, 7, high), Check.l(9, low, 0), Check.l(9, high, 8), Check.l(10, 7, low),
            Check.l(11, 7, high), Check.l(12, low, high)};
        TraceDebugger x = new TraceDebugger(1);
        for (int i = 0; i < lines.length; i++) {
            check.due("edge line " + i, x.line(lines[i][0], lines[i][1], lines[i][2]), i);
        }
    }

    private static void linesOnlyAtTimeZero() {
        TraceDebugger x = Check.made(1, Check.l(0, 0, 0));
        x.step();
        check.refused("line at time 1", x, Check.STATE, () -> x.line(0, 0, 0));
        x.back();
        check.due("line at time 0 again", x.line(0, 0, 0), 1);
        check.due("the END is not time 0", Check.made(1, Check.l(12, 0, 0)).step(), TraceDebugger.END);
        TraceDebugger ended = Check.made(1, Check.l(12, 0, 0));
        ended.go();
        check.refused("line at the END", ended, Check.STATE, () -> ended.line(0, 0, 0));
    }

    private static TraceDebugger full() {
        TraceDebugger x = new TraceDebugger(1);
        for (int i = 0; i < 80; i++) x.line(0, 0, i);
        return x;
    }

    private static void eightyLines() {
        TraceDebugger x = full();
        check.due("80 lines", x.told(5), 80);
        check.due("the last one is marked", x.mark(79, true), true);
        check.refused("line 81", x, Check.UNSUPPORTED, () -> x.line(0, 0, 0));
        check.due("to the mark on the last one", x.go(), TraceDebugger.BREAK);
        check.due("behind the last one", x.go(), TraceDebugger.TRAP);
        check.due("all 80 were done", x.told(0), 80);
        x.clear();
        check.due("room again", x.line(0, 0, 0), 0);
    }

    private static void theFirstOfSeveral() {
        TraceDebugger x = full();
        check.refused("argument before too many", x, Check.ARGUMENT, () -> x.line(13, 0, 0));
        x.step();
        check.refused("argument before state", x, Check.ARGUMENT, () -> x.line(0, 8, 0));
        check.refused("state before too many", x, Check.STATE, () -> x.line(0, 0, 0));
        check.refused("index before state", x, Check.INDEX, () -> x.poke(64, 0));
    }

    private static void linesStartTheKeepingAnew() {
        TraceDebugger x = Check.made(2, Check.l(7, 0, 0));
        x.goTo(20);
        x.goTo(0);
        check.due("kept before", Picture.keptOf(x), " 0 4 8 12 16 20");
        check.due("spacing before", x.told(4), 4);
        x.line(12, 0, 0);
        check.due("kept behind line()", Picture.keptOf(x), " 0");
        check.due("spacing behind line()", x.told(4), 2);
        x.goTo(5);
        check.due("come to for the first time again", Picture.keptOf(x), " 0 2 4");
    }

    private static void pokes() {
        TraceDebugger x = Check.made(1, Check.l(5, 1, 0), Check.l(12, 0, 0));
        check.due("the one before", x.poke(0, 5), 0);
        check.due("the one before, again", x.poke(0, Integer.MIN_VALUE), 5);
        check.due("the last cell", x.poke(63, 9), 0);
        check.due("poked", x.cell(63), 9);
        for (int cell : new int[] {-1, 64, Integer.MIN_VALUE, Integer.MAX_VALUE}) {
            check.refused("poke " + cell, x, Check.INDEX, () -> x.poke(cell, 1));
        }
        x.step();
        check.due("the program sees it", x.local(0, 1), Integer.MIN_VALUE);
        check.refused("poke at time 1", x, Check.STATE, () -> x.poke(0, 1));
        x.back();
        check.due("it stands behind going back", x.cell(0), Integer.MIN_VALUE);
        check.due("poke at time 0 again", x.poke(0, 3), Integer.MIN_VALUE);
        x.go();
        check.due("the new one is seen", x.local(0, 1), 3);
    }

    private static void pokesStartTheKeepingAnew() {
        TraceDebugger x = Check.made(1, Check.l(5, 1, 0), Check.l(1, 2, 1), Check.l(7, 0, 0));
        x.goTo(20);
        x.goTo(0);
        x.poke(0, 1);
        check.due("kept behind poke()", Picture.keptOf(x), " 0");
        check.due("spacing behind poke()", x.told(4), 1);
        check.due("go on behind poke()", x.goTo(17), 17);
        check.due("none of the old states is used", x.local(0, 2), 6);
        check.due("kept anew", Picture.keptOf(x), " 0 4 8 12 16");
        x.goTo(0);
        x.poke(0, 1);
        check.due("the same value counts too", Picture.keptOf(x), " 0");
    }

    private static void marks() {
        TraceDebugger x = Check.made(1, Check.l(0, 0, 0), Check.l(0, 0, 1));
        check.due("not marked at first", x.mark(0, false), false);
        check.due("marked", x.mark(1, true), true);
        check.due("marked twice", x.mark(1, true), false);
        check.due("the other is not marked", x.mark(0, false), false);
        check.due("unmarked", x.mark(1, false), true);
        check.due("unmarked twice", x.mark(1, false), false);
        for (int line : new int[] {-1, 2, 80, Integer.MIN_VALUE, Integer.MAX_VALUE}) {
            check.refused("mark " + line, x, Check.INDEX, () -> x.mark(line, true));
        }
        x.mark(1, true);
        x.line(12, 0, 0);
        check.due("a new line leaves marks", x.mark(1, true), false);
        check.due("a new line is not marked", x.mark(2, false), false);
        x.step();
        check.due("marks at any time", x.mark(2, true), true);
    }

    private static void watches() {
        TraceDebugger x = Check.made(1, Check.l(0, 0, 0));
        for (int cell : new int[] {0, 63}) {
            check.due("not watched at first", x.watch(cell, false), false);
            check.due("watched", x.watch(cell, true), true);
            check.due("watched twice", x.watch(cell, true), false);
            check.due("unwatched", x.watch(cell, false), true);
        }
        for (int cell : new int[] {-1, 64, Integer.MIN_VALUE, Integer.MAX_VALUE}) {
            check.refused("watch " + cell, x, Check.INDEX, () -> x.watch(cell, true));
        }
        x.watch(5, true);
        x.poke(5, 1);
        x.line(12, 0, 0);
        check.due("lines and pokes leave watches", x.watch(5, true), false);
    }

    private static void aTrapOutlastsLinesAndPokes() {
        TraceDebugger x = new TraceDebugger(1);
        check.due("no line", x.step(), TraceDebugger.TRAP);
        x.line(0, 0, 5);
        x.poke(0, 1);
        check.due("met, and time was not changed since", x.told(6), 2);
        check.due("nothing is done from there", x.go(), TraceDebugger.TRAP);
        check.due("nothing was done", x.told(0), 0);
        check.due("back() forgets it", x.back(), TraceDebugger.BEGIN);
        check.due("forgotten", x.told(6), 0);
        check.due("now it is done", x.step(), TraceDebugger.DONE);
    }

    private static void cleared() {
        TraceDebugger x = Check.made(3, Check.l(0, 0, 5), Check.l(6, 0, 0), Check.l(11, 0, 0), Check.l(9, 0, 8));
        x.poke(9, 9);
        x.mark(1, true);
        x.watch(5, true);
        x.goTo(200);
        x.step();
        check.due("in a TRAP", x.told(6), 2);
        x.clear();
        check.due("as at first", Picture.of(x), Picture.of(new TraceDebugger(3)));
        check.due("no watch", x.watch(5, false), false);
        check.refused("no line", x, Check.INDEX, () -> x.mark(0, false));
        x.line(0, 0, 5);
        x.line(6, 0, 0);
        check.due("no mark", x.mark(1, false), false);
        check.due("neither BREAK nor WATCH", x.go(), TraceDebugger.TRAP);
        check.due("cells 0 at time 0", x.goTo(0), 0);
        check.due("the poked one too", x.cell(9), 0);
        TraceDebugger ended = Check.made(3, Check.l(12, 0, 0));
        ended.poke(0, 1);
        ended.mark(0, true);
        ended.watch(0, true);
        ended.go();
        ended.clear();
        check.due("cell 0 too", ended.cell(0), 0);
        check.due("the watch of cell 0 too", ended.watch(0, false), false);
        ended.line(12, 0, 0);
        check.due("the mark of line 0 too", ended.mark(0, false), false);
        check.due("the END is gone", ended.told(6), 0);
    }
}
