/** All that an object will answer from here on, as far as a long row of calls tells; it changes the object. */
final class Future {
    private Future() {}

    static String of(TraceDebugger x) {
        StringBuilder text = new StringBuilder(Picture.of(x));
        text.append(marksAndWatches(x));
        text.append("\nstep ").append(x.step()).append('\n').append(Picture.of(x));
        text.append("\nreverse ").append(x.reverse()).append('\n').append(Picture.of(x));
        text.append("\nnext ").append(x.next()).append(", finish ").append(x.finish());
        text.append(", go ").append(x.go()).append('\n').append(Picture.of(x));
        text.append("\nback ").append(x.back()).append('\n').append(Picture.of(x));
        // Far on, so that a state that is kept at another time than is due shows.
        for (int time : new int[] {2000, 40, 1, 0}) {
            text.append("\ngoTo ").append(x.goTo(time)).append('\n').append(Picture.of(x));
        }
        text.append("\npoke ").append(x.poke(0, 1)).append('\n').append(Picture.of(x));
        if (x.told(5) < 80) text.append("\nline ").append(x.line(Op.HALT, 0, 0)).append('\n').append(Picture.of(x));
        x.clear();
        return text.append('\n').append(Picture.of(x)).toString();
    }

    /** Which lines are marked and which cells are watched; they stay so. */
    private static String marksAndWatches(TraceDebugger x) {
        StringBuilder text = new StringBuilder("\nmarked");
        for (int line = 0; line < x.told(5); line++) {
            if (!x.mark(line, false)) continue;
            x.mark(line, true);
            text.append(' ').append(line);
        }
        text.append("\nwatched");
        for (int cell = 0; cell < 64; cell++) {
            if (!x.watch(cell, false)) continue;
            x.watch(cell, true);
            text.append(' ').append(cell);
        }
        return text.toString();
    }
}
