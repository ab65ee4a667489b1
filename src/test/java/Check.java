import java.util.Objects;

/** Counts answers, tells the wrong ones, and ends a test with exit code 1 if there was one. */
final class Check {
    interface Call {
        Object answer();
    }

    static final Class<? extends RuntimeException> INDEX = IndexOutOfBoundsException.class;
    static final Class<? extends RuntimeException> ARGUMENT = IllegalArgumentException.class;
    static final Class<? extends RuntimeException> STATE = IllegalStateException.class;
    static final Class<? extends RuntimeException> UNSUPPORTED = UnsupportedOperationException.class;

    private int right;
    private int wrong;
    private String sentence = "";

    /** The words of the document that the answers from here on are about; told with each wrong one. */
    void sentence(String words) {
        sentence = "\"" + words + "\": ";
    }

    void due(String what, Object got, Object want) {
        if (Objects.equals(got, want)) {
            right++;
            return;
        }
        wrong++;
        System.out.println(sentence + what + ": answered " + got + ", due is " + want);
    }

    /** The call throws just that, and nothing that can be seen of the object is another. */
    void refused(String what, TraceDebugger x, Class<? extends RuntimeException> kind, Call call) {
        String before = Picture.of(x);
        due(what, answerOf(call), kind.getSimpleName());
        due(what + ", and what it leaves", Picture.of(x), before);
    }

    void told(String what, TraceDebugger x, int time, int frames, int state) {
        due(what + ", time", x.told(0), time);
        due(what + ", frames", x.told(1), frames);
        due(what + ", END or TRAP", x.told(6), state);
    }

    /** What the call answers, or the name of what it throws. */
    static Object answerOf(Call call) {
        try {
            return call.answer();
        } catch (RuntimeException e) {
            return e.getClass().getSimpleName();
        }
    }

    static TraceDebugger made(int spacing, int[]... lines) {
        TraceDebugger x = new TraceDebugger(spacing);
        for (int[] line : lines) x.line(line[0], line[1], line[2]);
        return x;
    }

    static int[] l(int operation, int a, int b) {
        return new int[] {operation, a, b};
    }

    void close() {
        System.out.println(right + " answers as due, " + wrong + " not");
        if (wrong != 0 || right == 0) System.exit(1);
    }
}
