/** Promises 10 to 12: back, reverse, goTo. */
public final class BackwardTest {
    private static final int DONE = TraceDebugger.DONE, BREAK = TraceDebugger.BREAK, WATCH = TraceDebugger.WATCH;
    private static final int END = TraceDebugger.END, TRAP = TraceDebugger.TRAP, BEGIN = TraceDebugger.BEGIN;
    private static final Check check = new Check();

    public static void main(String[] args) {
        backToEachState();
        backAtTheBeginning();
        backForgetsATrap();
        backFromTheEnd();
        reverseToMarks();
        reverseToWatches();
        reverseTellsWatchFirst();
        reverseLeavesOutTimeZero();
        reverseForgetsATrap();
        reverseUsesTheMarksOfNow();
        reverseFindsWhatGoFinds();
        goToTimes();
        goToBeyondTheEnd();
        goToATrap();
        farBackFromATrap();
        wrongTimes();
        check.close();
    }

    /** Counts up in local 0, stores it in the cell of that number, prints it: 4 lines a round. */
    private static TraceDebugger counter(int spacing) {
        return Check.made(spacing, Check.l(0, 1, 1), Check.l(1, 0, 1), Check.l(6, 0, 0), Check.l(11, 0, 0),
            Check.l(7, 1, 0));
    }

    /** What is there but for the states that are kept, of which there are more behind going on. */
    private static String seen(TraceDebugger x) {
        String all = Picture.of(x);
        return x.told(0) + " " + x.told(1) + " " + x.told(2) + " " + x.told(6) + all.substring(all.indexOf("\nframe"));
    }

    private static void backToEachState() {
        for (int spacing : new int[] {1, 3, 100}) {
            TraceDebugger x = counter(spacing);
            String[] want = new String[200];
            for (int time = 0; time < want.length; time++) {
                want[time] = seen(x);
                x.step();
            }
            String kept = Picture.keptOf(x);
            for (int time = want.length - 1; time >= 0; time--) {
                check.due("back", x.back(), DONE);
                check.due("back to time " + time, seen(x), want[time]);
            }
            check.due("going back leaves what is kept", Picture.keptOf(x), kept);
        }
    }

    private static void backAtTheBeginning() {
        TraceDebugger x = counter(1);
        String before = Picture.of(x);
        check.due("back at time 0", x.back(), BEGIN);
        check.due("nothing is changed", Picture.of(x), before);
        x.step();
        check.due("back to time 0", x.back(), DONE);
        check.due("time 0", x.told(0), 0);
    }

    private static void backForgetsATrap() {
        TraceDebugger x = Check.made(1, Check.l(0, 0, 1), Check.l(4, 0, 1));
        check.due("TRAP", x.go(), TRAP);
        check.due("back", x.back(), DONE);
        check.told("one time less", x, 0, 1, 0);
        check.due("step", x.step(), DONE);
        check.told("the TRAP was not met again", x, 1, 1, 0);
        TraceDebugger empty = new TraceDebugger(1);
        empty.step();
        check.due("back at time 0", empty.back(), BEGIN);
        check.due("forgotten at time 0 too", empty.told(6), 0);
    }

    private static void backFromTheEnd() {
        TraceDebugger x = Check.made(1, Check.l(0, 0, 1), Check.l(12, 0, 0));
        check.due("END", x.go(), END);
        check.due("back", x.back(), DONE);
        check.told("before the END", x, 1, 1, 0);
        check.due("the END again", x.step(), END);
    }

    private static void reverseToMarks() {
        TraceDebugger x = counter(2);
        x.goTo(12);
        x.mark(3, true);
        for (int time : new int[] {11, 7, 3}) {
            check.due("reverse", x.reverse(), BREAK);
            check.due("time of the mark", x.told(0), time);
            check.due("at the mark", x.at(0), 3);
        }
        check.due("no more", x.reverse(), BEGIN);
        check.told("no more", x, 0, 1, 0);
        check.due("at time 0", x.reverse(), BEGIN);
    }

    private static void reverseToWatches() {
        TraceDebugger x = counter(2);
        x.watch(1, true);
        x.watch(3, true);
        x.goTo(40);
        check.due("reverse", x.reverse(), WATCH);
        check.due("behind the line that changes it", x.told(0), 11);
        check.due("changed", x.cell(3), 3);
        check.due("reverse again", x.reverse(), WATCH);
        check.due("time", x.told(0), 3);
        check.due("no more", x.reverse(), BEGIN);
    }

    private static void reverseTellsWatchFirst() {
        TraceDebugger x = counter(2);
        x.watch(2, true);
        x.mark(3, true);
        x.goTo(9);
        check.due("both at one time", x.reverse(), WATCH);
        check.due("both, time", x.told(0), 7);
        check.due("a mark alone", x.reverse(), BREAK);
        check.due("a mark alone, time", x.told(0), 3);
    }

    private static void reverseLeavesOutTimeZero() {
        TraceDebugger x = Check.made(1, Check.l(7, 0, 0));
        x.mark(0, true);
        x.goTo(2);
        check.due("time 1 has a line before it", x.reverse(), BREAK);
        check.due("time 1", x.told(0), 1);
        check.due("time 0 has none", x.reverse(), BEGIN);
        check.due("time 0", x.told(0), 0);
    }

    private static void reverseForgetsATrap() {
        TraceDebugger x = Check.made(1, Check.l(0, 0, 1), Check.l(4, 0, 1));
        x.mark(1, true);
        x.go();
        check.due("TRAP", x.go(), TRAP);
        check.due("the time at hand is not before this", x.reverse(), BEGIN);
        check.told("forgotten", x, 0, 1, 0);
        TraceDebugger empty = new TraceDebugger(1);
        empty.step();
        check.due("at time 0", empty.reverse(), BEGIN);
        check.due("forgotten at time 0 too", empty.told(6), 0);
    }

    private static void reverseUsesTheMarksOfNow() {
        TraceDebugger x = counter(5);
        x.mark(1, true);
        x.goTo(20);
        x.mark(1, false);
        x.mark(4, true);
        check.due("reverse", x.reverse(), BREAK);
        check.due("the new mark", x.told(0), 16);
        x.mark(4, false);
        check.due("no mark", x.reverse(), BEGIN);
    }

    private static void reverseFindsWhatGoFinds() {
        for (int spacing : new int[] {1, 7, 100}) {
            TraceDebugger x = counter(spacing);
            x.mark(2, true);
            for (int cell = 0; cell < 64; cell += 3) x.watch(cell, true);
            int[] times = new int[60];
            int[] whys = new int[60];
            for (int i = 0; i < 60; i++) {
                whys[i] = x.go();
                times[i] = x.told(0);
            }
            x.step();
            for (int i = 59; i >= 0; i--) {
                check.due("why", x.reverse(), whys[i]);
                check.due("time", x.told(0), times[i]);
            }
            check.due("before all stops", x.reverse(), BEGIN);
        }
    }

    private static void goToTimes() {
        for (int spacing : new int[] {1, 10, 100}) {
            TraceDebugger x = counter(spacing);
            String[] want = new String[240];
            for (int time = 0; time < want.length; time++) {
                want[time] = seen(x);
                x.step();
            }
            for (int i = 0; i < want.length; i++) {
                int time = i * 89 % want.length;
                check.due("goTo", x.goTo(time), time);
                check.due("state of time " + time, seen(x), want[time]);
            }
        }
        TraceDebugger x = counter(10);
        x.mark(2, true);
        x.watch(1, true);
        check.due("marks and watches do not stop it", x.goTo(30), 30);
        check.due("kept on the way", Picture.keptOf(x), " 0 10 20 30");
        TraceDebugger loop = Check.made(1, Check.l(7, 0, 0));
        check.due("the last time", loop.goTo(2000), 2000);
        check.due("the first time", loop.goTo(0), 0);
    }

    private static void goToBeyondTheEnd() {
        TraceDebugger x = Check.made(1, Check.l(0, 0, 1), Check.l(12, 0, 0));
        check.due("beyond the END", x.goTo(3), 2);
        check.told("at the END", x, 2, 1, 1);
        check.due("before the END", x.goTo(1), 1);
        check.told("before the END", x, 1, 1, 0);
        check.due("beyond the END, again", x.goTo(2000), 2);
        check.told("at the END, which is kept", x, 2, 1, 1);
        check.due("step", x.step(), END);
    }

    private static void goToATrap() {
        TraceDebugger x = Check.made(1, Check.l(0, 0, 1), Check.l(4, 0, 1));
        check.due("beyond a TRAP", x.goTo(9), 1);
        check.told("not noted", x, 1, 1, 0);
        check.due("TRAP", x.step(), TRAP);
        check.due("the time at hand", x.goTo(1), 1);
        check.told("forgotten", x, 1, 1, 0);
        check.due("TRAP again", x.step(), TRAP);
        check.due("beyond it, from it", x.goTo(2), 1);
        check.told("forgotten, and not noted", x, 1, 1, 0);
        check.due("no lines", new TraceDebugger(1).goTo(2000), 0);
    }

    /** The counter stops in a TRAP at time 254, when there is no cell 64; the state kept before it is that of time 200. */
    private static void farBackFromATrap() {
        TraceDebugger x = counter(100);
        check.due("TRAP", x.go(), TRAP);
        check.told("TRAP", x, 254, 1, 2);
        check.due("back", x.back(), DONE);
        check.told("back", x, 253, 1, 0);
        check.due("TRAP again", x.go(), TRAP);
        check.due("goTo", x.goTo(130), 130);
        check.told("goTo", x, 130, 1, 0);
        check.due("TRAP once more", x.go(), TRAP);
        x.mark(4, true);
        check.due("reverse", x.reverse(), BREAK);
        check.told("reverse", x, 252, 1, 0);
    }

    private static void wrongTimes() {
        TraceDebugger x = Check.made(1, Check.l(0, 0, 1), Check.l(4, 0, 1));
        x.go();
        for (int time : new int[] {-1, 2001, Integer.MIN_VALUE, Integer.MAX_VALUE}) {
            check.refused("goTo " + time, x, Check.ARGUMENT, () -> x.goTo(time));
        }
        check.due("a call that throws forgets no TRAP", x.told(6), 2);
    }
}
