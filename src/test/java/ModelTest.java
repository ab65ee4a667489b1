import java.util.Random;

/** Runs of calls chosen by a fixed seed, each answer and all that can be read compared with the model's. */
public final class ModelTest {
    private static final Check check = new Check();

    public static void main(String[] args) {
        for (int seed = 1; seed <= 300; seed++) run(seed);
        check.close();
    }

    private static void run(int seed) {
        Random random = new Random(seed);
        int spacing = seed % 3 == 0 ? 1 + random.nextInt(4) : random.nextInt(110) - 4;
        TraceDebugger x = new TraceDebugger(spacing);
        Model model = new Model(spacing);
        for (int call = 0; call < 150; call++) {
            String what = "seed " + seed + ", call " + call;
            if (model.lines() == 0 || random.nextInt(100) == 0) program(what, random, x, model);
            call(what, random, x, model);
            check.due(what + ", picture", Picture.of(x), model.picture());
        }
    }

    private static void program(String what, Random random, TraceDebugger x, Model model) {
        if (random.nextInt(4) == 0) both(what + " step()", x.step(), model.step());
        if (random.nextBoolean()) {
            x.clear();
            model.clear();
        }
        both(what + " goTo(0)", x.goTo(0), model.goTo(0));
        int lines = Math.min(2 + random.nextInt(16), 80 - model.lines());
        for (int i = 0; i < lines; i++) {
            int operation = random.nextInt(40) == 0 ? 12 : random.nextInt(12);
            // Jumps mostly go to lines that there are, so that programs run long.
            int target = random.nextInt(20) == 0 ? random.nextInt(200) - 100 : random.nextInt(lines);
            int a = operation == 7 || operation == 9 ? target : random.nextInt(8);
            int b = operation == 8 ? target : operation == 9 ? random.nextInt(9)
                : operation == 0 ? random.nextInt(70) - 2 : random.nextInt(8);
            both(what + " line()", x.line(operation, a, b), model.line(operation, a, b));
        }
        for (int i = 0; i < 3; i++) {
            int cell = random.nextInt(64);
            int v = random.nextInt();
            both(what + " poke()", x.poke(cell, v), model.poke(cell, v));
        }
    }

    private static void call(String what, Random random, TraceDebugger x, Model model) {
        int number = random.nextInt(64);
        int line = random.nextInt(model.lines());
        boolean on = random.nextBoolean();
        int time = Math.max(0, Math.min(2000, model.time() + random.nextInt(60) - 30));
        int far = random.nextInt(2001);
        switch (random.nextInt(14)) {
            case 0, 1 -> both(what + " step()", x.step(), model.step());
            case 2, 3 -> both(what + " next()", x.next(), model.next());
            case 4 -> both(what + " finish()", x.finish(), model.finish());
            case 5, 6 -> both(what + " go()", x.go(), model.go());
            case 7 -> both(what + " back()", x.back(), model.back());
            case 8 -> both(what + " reverse()", x.reverse(), model.reverse());
            case 9 -> both(what + " goTo()", x.goTo(time), model.goTo(time));
            case 10 -> both(what + " goTo()", x.goTo(far), model.goTo(far));
            case 11 -> both(what + " mark()", x.mark(line, on), model.mark(line, on));
            case 12 -> both(what + " watch()", x.watch(number % 8, on), model.watch(number % 8, on));
            default -> {
                if (model.time() == 0) both(what + " poke()", x.poke(number, far), model.poke(number, far));
                else check.due(what + " poke()", Check.answerOf(() -> x.poke(number, far)), "IllegalStateException");
            }
        }
    }

    private static void both(String what, Object got, Object want) {
        check.due(what, got, want);
    }
}
