/** All that can be read of an object without changing it, as a text. */
final class Picture {
    private Picture() {}

    static String of(TraceDebugger x) {
        StringBuilder text = new StringBuilder("told");
        for (int what = 0; what <= 6; what++) text.append(' ').append(x.told(what));
        text.append("\nkept").append(keptOf(x));
        for (int frame = 0; frame < x.told(1); frame++) {
            text.append("\nframe ").append(frame).append(" at ").append(x.at(frame)).append(':');
            for (int i = 0; i < 8; i++) text.append(' ').append(x.local(frame, i));
        }
        text.append("\ncells");
        for (int i = 0; i < 64; i++) text.append(' ').append(x.cell(i));
        text.append("\noutput");
        for (int i = 0; i < x.told(2); i++) text.append(' ').append(x.output(i));
        return text.toString();
    }

    static String keptOf(TraceDebugger x) {
        StringBuilder text = new StringBuilder();
        for (int i = 0; i < x.told(3); i++) text.append(' ').append(x.kept(i));
        return text.toString();
    }
}
