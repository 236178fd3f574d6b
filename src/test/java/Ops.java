/** Names for tests to inherit: the instructions, and rows of ints. */
class Ops {
    static final int PUSH = 0, PUSHW = 1, NULL = 2, LOAD = 3, STORE = 4, POP = 5, DUP = 6, SWAP = 7, ADD = 8, SUB = 9,
        MUL = 10, DIV = 11, REST = 12, AND = 13, OR = 14, XOR = 15, LEFT = 16, RIGHT = 17, URIGHT = 18, NEG = 19,
        TO_BYTE = 20, TO_CHAR = 21, TO_SHORT = 22, INC = 23, JUMP = 24, IF0 = 25, IFNOT0 = 26, IFGT0 = 29, IFSAME = 31,
        IFNULL = 37, IFNOTNULL = 38, IFREF = 39, IFNOTREF = 40, SWITCH = 41, NEW = 42, ROW = 43, SIZE = 44, GETAT = 45,
        PUTAT = 46, GET = 47, PUT = 48, CALL = 49, CALLV = 50, CALLX = 51, RET = 52, RETV = 53, THROW = 54, CAST = 55,
        IS = 56, IN = 57, OUT = 58;
    static final int NO = 255;
    static final int[] NO_PARAMS = {};

    static int[] p(int... params) {
        return params;
    }

    static int[] c(int... code) {
        return code;
    }
}
