import java.math.BigInteger;

/** A wrap-around: ADD, SUB, MUL and DIV with numbers that run over, against numbers without a bound. */
public final class WrapTest {
    private static final int LOW = Integer.MIN_VALUE, HIGH = Integer.MAX_VALUE;
    private static final int[] NUMBERS = {LOW, LOW + 1, LOW / 2, -65536, -46341, -46340, -17, -5, -2, -1, 0, 1, 2, 5, 17,
        46340, 46341, 65536, HIGH / 2, HIGH / 2 + 1, HIGH - 1, HIGH};
    private static final Check check = new Check();

    public static void main(String[] args) {
        writtenOut();
        check.sentence("local a is it and, less, times local b (running over) .. divided by local b, toward 0 (running over)");
        for (int a : NUMBERS) {
            for (int b : NUMBERS) pair(a, b);
            withItself(a);
        }
        dividedByZero();
        onAndOn();
        onlyLocalsOfThisFrame();
        check.close();
    }

    private static int reckon(int operation, int a, int b) {
        TraceDebugger x = Check.made(9, Check.l(Op.SET, 6, a), Check.l(Op.SET, 7, b), Check.l(operation, 6, 7));
        x.goTo(2);
        check.due("running over is no stop", x.step(), TraceDebugger.DONE);
        check.due("local b is left", x.local(0, 7), b);
        check.due("the line behind comes", x.at(0), 3);
        return x.local(0, 6);
    }

    /** The edges once with their answers written out, so that not both sides are reckoned alike. */
    private static void writtenOut() {
        check.sentence("running over");
        check.due("ADD over the greatest", reckon(Op.ADD, 2147483647, 1), -2147483648);
        check.due("ADD under the least", reckon(Op.ADD, -2147483648, -1), 2147483647);
        check.due("ADD of the least twice", reckon(Op.ADD, -2147483648, -2147483648), 0);
        check.due("SUB under the least", reckon(Op.SUB, -2147483648, 1), 2147483647);
        check.due("SUB over the greatest", reckon(Op.SUB, 2147483647, -1), -2147483648);
        check.due("SUB of the least from 0", reckon(Op.SUB, 0, -2147483648), -2147483648);
        check.due("MUL over the greatest", reckon(Op.MUL, 46341, 46341), -2147479015);
        check.due("MUL just not over", reckon(Op.MUL, 46340, 46340), 2147395600);
        check.due("MUL of the least by -1", reckon(Op.MUL, -2147483648, -1), -2147483648);
        check.due("MUL of the greatest twice", reckon(Op.MUL, 2147483647, 2147483647), 1);
        check.due("DIV of the least by -1", reckon(Op.DIV, -2147483648, -1), -2147483648);
        check.due("DIV of the least by 1", reckon(Op.DIV, -2147483648, 1), -2147483648);
        check.due("DIV of the greatest by -1", reckon(Op.DIV, 2147483647, -1), -2147483647);
        check.sentence("toward 0");
        check.due("DIV of -17 by 5", reckon(Op.DIV, -17, 5), -3);
        check.due("DIV of 17 by -5", reckon(Op.DIV, 17, -5), -3);
        check.due("DIV of -17 by -5", reckon(Op.DIV, -17, -5), 3);
        check.due("DIV of -1 by 2", reckon(Op.DIV, -1, 2), 0);
        check.due("DIV of 0 by the least", reckon(Op.DIV, 0, -2147483648), 0);
    }

    private static void pair(int a, int b) {
        BigInteger x = BigInteger.valueOf(a);
        BigInteger y = BigInteger.valueOf(b);
        check.due(a + " ADD " + b, reckon(Op.ADD, a, b), x.add(y).intValue());
        check.due(a + " SUB " + b, reckon(Op.SUB, a, b), x.subtract(y).intValue());
        check.due(a + " MUL " + b, reckon(Op.MUL, a, b), x.multiply(y).intValue());
        if (b != 0) check.due(a + " DIV " + b, reckon(Op.DIV, a, b), x.divide(y).intValue());
    }

    private static void withItself(int a) {
        int[] want = {2 * a, 0, a * a, 1};
        for (int i = 0; i < want.length; i++) {
            if (a == 0 && Op.ADD + i == Op.DIV) continue;
            TraceDebugger x = Check.made(9, Check.l(Op.SET, 3, a), Check.l(Op.ADD + i, 3, 3));
            x.goTo(2);
            check.due(a + " with itself, operation " + (Op.ADD + i), x.local(0, 3), want[i]);
        }
    }

    private static void dividedByZero() {
        check.sentence("DIV: TRAP if that is 0");
        for (int a : NUMBERS) {
            TraceDebugger x = Check.made(9, Check.l(Op.SET, 6, a), Check.l(Op.DIV, 6, 7));
            x.step();
            check.due(a + " DIV 0", x.step(), TraceDebugger.TRAP);
            check.told(a + " DIV 0", x, 1, 1, 2);
            check.due("it is left", x.local(0, 6), a);
        }
        TraceDebugger itself = Check.made(9, Check.l(Op.DIV, 0, 0));
        check.due("0 DIV itself", itself.step(), TraceDebugger.TRAP);
        check.told("0 DIV itself", itself, 0, 1, 2);
    }

    /** Squares 3 again and again: it runs over many times. */
    private static void onAndOn() {
        check.sentence("running over");
        TraceDebugger x = Check.made(9, Check.l(Op.SET, 0, 3), Check.l(Op.MUL, 0, 0), Check.l(Op.JUMP, 1, 0));
        BigInteger want = BigInteger.valueOf(3);
        for (int round = 1; round <= 12; round++) {
            want = want.multiply(want);
            x.goTo(2 * round);
            check.due("round " + round, x.local(0, 0), want.intValue());
        }
    }

    private static void onlyLocalsOfThisFrame() {
        check.sentence("The last frame's line is done");
        TraceDebugger x = Check.made(9, Check.l(Op.SET, 1, 40), Check.l(Op.SET, 2, 7), Check.l(Op.CALL, 3, 8),
            Check.l(Op.ADD, 1, 2), Check.l(Op.SUB, 2, 1), Check.l(Op.MUL, 1, 1), Check.l(Op.DIV, 1, 2));
        x.goTo(7);
        check.due("local 1", x.local(0, 1), 47 * 47 / -40);
        check.due("local 2", x.local(0, 2), -40);
        check.due("local 1 of the frame that waits", x.local(1, 1), 40);
        check.due("local 2 of the frame that waits", x.local(1, 2), 7);
    }
}
