/** The operations by their names. */
final class Op {
    static final int SET = 0, ADD = 1, SUB = 2, MUL = 3, DIV = 4, LOAD = 5, STORE = 6;
    static final int JUMP = 7, TEST = 8, CALL = 9, RETURN = 10, PRINT = 11, HALT = 12;

    private Op() {}
}
