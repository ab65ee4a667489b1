import java.util.ArrayList;
import java.util.List;

/**
 * The document once more, in another way: every state of a program stands in a list, and which are
 * kept is reckoned from the farthest time each time it is asked. It checks no arguments.
 */
final class Model {
    private static final class Frame {
        final int[] locals = new int[8];
        int line;

        Frame copy() {
            Frame frame = new Frame();
            System.arraycopy(locals, 0, frame.locals, 0, 8);
            frame.line = line;
            return frame;
        }
    }

    private static final class Moment {
        final int[] cells;
        final List<Frame> frames = new ArrayList<>();
        final List<Integer> output = new ArrayList<>();
        boolean end;

        Moment(int[] cells) {
            this.cells = cells.clone();
        }

        Moment copy() {
            Moment m = new Moment(cells);
            for (Frame frame : frames) m.frames.add(frame.copy());
            m.output.addAll(output);
            m.end = end;
            return m;
        }

        Frame last() {
            return frames.get(frames.size() - 1);
        }
    }

    private final int first;
    private final List<int[]> lines = new ArrayList<>();
    private final List<Boolean> marks = new ArrayList<>();
    private final boolean[] watches = new boolean[64];
    private final List<Moment> moments = new ArrayList<>();
    private int[] start = new int[64];
    private int time;
    private int farthest;
    private boolean trap;

    Model(int spacing) {
        first = spacing < 1 ? 1 : spacing > 100 ? 100 : spacing;
        anew();
    }

    private void anew() {
        moments.clear();
        Moment m = new Moment(start);
        m.frames.add(new Frame());
        moments.add(m);
        farthest = 0;
    }

    int time() {
        return time;
    }

    int lines() {
        return lines.size();
    }

    int frames() {
        return moments.get(time).frames.size();
    }

    int line(int operation, int a, int b) {
        lines.add(new int[] {operation, a, b});
        marks.add(false);
        anew();
        return lines.size() - 1;
    }

    int poke(int cell, int v) {
        int before = start[cell];
        start[cell] = v;
        anew();
        return before;
    }

    boolean mark(int line, boolean on) {
        return marks.set(line, on) != on;
    }

    boolean watch(int cell, boolean on) {
        boolean other = watches[cell] != on;
        watches[cell] = on;
        return other;
    }

    void clear() {
        lines.clear();
        marks.clear();
        start = new int[64];
        for (int i = 0; i < 64; i++) watches[i] = false;
        time = 0;
        trap = false;
        anew();
    }

    /** The moment behind the one of that time, null if the line there is a TRAP. */
    private Moment after(int t) {
        if (t + 1 < moments.size()) return moments.get(t + 1);
        Moment m = moments.get(t).copy();
        if (!work(m)) return null;
        moments.add(m);
        return m;
    }

    private boolean work(Moment m) {
        Frame f = m.last();
        if (f.line < 0 || f.line >= lines.size()) return false;
        int[] line = lines.get(f.line);
        int a = line[1];
        int b = line[2];
        int behind = f.line + 1;
        switch (line[0]) {
            case 0 -> f.locals[a] = b;
            case 1 -> f.locals[a] = (int) ((long) f.locals[a] + f.locals[b]);
            case 2 -> f.locals[a] = (int) ((long) f.locals[a] - f.locals[b]);
            case 3 -> f.locals[a] = (int) ((long) f.locals[a] * f.locals[b]);
            case 4 -> {
                if (f.locals[b] == 0) return false;
                f.locals[a] = (int) ((long) f.locals[a] / f.locals[b]);
            }
            case 5 -> {
                if (f.locals[b] < 0 || f.locals[b] > 63) return false;
                f.locals[a] = m.cells[f.locals[b]];
            }
            case 6 -> {
                if (f.locals[a] < 0 || f.locals[a] > 63) return false;
                m.cells[f.locals[a]] = f.locals[b];
            }
            case 7 -> behind = a;
            case 8 -> behind = f.locals[a] == 0 ? b : behind;
            case 9 -> {
                if (m.frames.size() == 16) return false;
                Frame called = new Frame();
                for (int i = 0; i < b; i++) called.locals[i] = f.locals[i];
                called.line = a;
                m.frames.add(called);
            }
            case 10 -> {
                if (m.frames.size() == 1) {
                    m.end = true;
                    return true;
                }
                m.frames.remove(m.frames.size() - 1);
                m.last().locals[0] = f.locals[a];
            }
            case 11 -> {
                if (m.output.size() == 200) return false;
                m.output.add(f.locals[a]);
            }
            default -> {
                m.end = true;
                return true;
            }
        }
        f.line = behind;
        return true;
    }

    private boolean watchedAt(int t) {
        for (int i = 0; i < 64; i++) {
            if (watches[i] && moments.get(t).cells[i] != moments.get(t - 1).cells[i]) return true;
        }
        return false;
    }

    private boolean markedAt(int t) {
        int line = moments.get(t).last().line;
        return line >= 0 && line < marks.size() && marks.get(line);
    }

    private int forward(int mostFrames, boolean stopsAtMarks, boolean once) {
        while (true) {
            if (trap) return 4;
            if (moments.get(time).end) return 3;
            if (time == 2000) return 5;
            Moment m = after(time);
            if (m == null) {
                trap = true;
                return 4;
            }
            time++;
            farthest = Math.max(farthest, time);
            if (m.end) return 3;
            if (watchedAt(time)) return 2;
            if (stopsAtMarks && markedAt(time)) return 1;
            if (once || m.frames.size() <= mostFrames) return 0;
        }
    }

    int step() {
        return forward(0, false, true);
    }

    int next() {
        return forward(frames(), true, false);
    }

    int finish() {
        return forward(frames() - 1, true, false);
    }

    int go() {
        return forward(0, true, false);
    }

    int back() {
        trap = false;
        if (time == 0) return 6;
        time--;
        return 0;
    }

    int reverse() {
        trap = false;
        while (time > 1) {
            time--;
            if (watchedAt(time)) return 2;
            if (markedAt(time)) return 1;
        }
        time = 0;
        return 6;
    }

    int goTo(int t) {
        trap = false;
        time = Math.min(t, farthest);
        while (time < t && !moments.get(time).end && after(time) != null) {
            time++;
            farthest = Math.max(farthest, time);
        }
        return time;
    }

    String picture() {
        Moment m = moments.get(time);
        List<Integer> kept = new ArrayList<>(List.of(0));
        int spacing = first;
        for (int t = 1; t <= farthest; t++) {
            if (t % spacing != 0) continue;
            if (kept.size() == 8) {
                kept = new ArrayList<>(List.of(kept.get(0), kept.get(2), kept.get(4), kept.get(6)));
                spacing *= 2;
            }
            if (t % spacing == 0) kept.add(t);
        }
        StringBuilder text = new StringBuilder("told ").append(time).append(' ').append(m.frames.size());
        text.append(' ').append(m.output.size()).append(' ').append(kept.size()).append(' ').append(spacing);
        text.append(' ').append(lines.size()).append(' ').append(m.end ? 1 : trap ? 2 : 0).append("\nkept");
        for (int t : kept) text.append(' ').append(t);
        for (int i = 0; i < m.frames.size(); i++) {
            Frame f = m.frames.get(m.frames.size() - 1 - i);
            text.append("\nframe ").append(i).append(" at ").append(f.line).append(':');
            for (int local : f.locals) text.append(' ').append(local);
        }
        text.append("\ncells");
        for (int cell : m.cells) text.append(' ').append(cell);
        text.append("\noutput");
        for (int value : m.output) text.append(' ').append(value);
        return text.toString();
    }
}
