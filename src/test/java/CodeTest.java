import java.util.NoSuchElementException;

/** Promises 12, 13, 15 and 18: what the instructions do, frames, calls, traps and what is thrown. */
public final class CodeTest extends Ops {
    private static final Check CHECK = new Check("CodeTest");
    private static final int MIN = Integer.MIN_VALUE;
    private static final int MAX = Integer.MAX_VALUE;

    private CodeTest() {
    }

    private static ByteProcessor run(ByteProcessor x, int m, int a, int b) {
        CHECK.yes("begin " + m, x.begin(m, a, b));
        x.go(100000);
        return x;
    }

    private static void two(int op, int a, int b, int want) {
        ByteProcessor x = Images.plain().main(0, p(0, 0), 0, 2, c(LOAD, 0, LOAD, 1, op, RETV)).loaded();
        run(x, 0, a, b);
        CHECK.same("op " + op + " ended", x.look(0), 2);
        CHECK.same("op " + op + " of " + a + ", " + b, x.look(1), want);
        CHECK.same("done", x.look(2), 4);
    }

    private static void one(int op, int a, int want) {
        ByteProcessor x = Images.plain().main(0, p(0), 0, 1, c(LOAD, 0, op, RETV)).loaded();
        run(x, 0, a, 0);
        CHECK.same("op " + op + " of " + a, x.look(1), want);
    }

    private static void reckoning() {
        two(ADD, MAX, 1, MIN);
        two(SUB, MIN, 1, MAX);
        two(SUB, 3, 10, -7);
        two(MUL, 65537, 65537, 131073);
        two(MUL, -3, 7, -21);
        two(DIV, -7, 2, -3);
        two(DIV, 7, -2, -3);
        two(DIV, MIN, -1, MIN);
        two(DIV, -7, 1, -7);
        two(DIV, 7, -1, -7);
        two(DIV, 7, 7, 1);
        two(DIV, 6, 7, 0);
        two(REST, -7, 2, -1);
        two(REST, 7, -2, 1);
        two(REST, MIN, -1, 0);
        two(REST, 7, 1, 0);
        two(REST, 6, 7, 6);
        two(AND, 12, 10, 8);
        two(OR, 12, 10, 14);
        two(XOR, 12, 10, 6);
        two(LEFT, 1, 33, 2);
        two(LEFT, 3, 31, MIN);
        two(RIGHT, -8, 1, -4);
        two(RIGHT, -8, -31, -4);
        two(URIGHT, -8, 1, 2147483644);
        two(URIGHT, -1, 32, -1);
        one(NEG, 5, -5);
        one(NEG, MIN, MIN);
        one(TO_BYTE, 200, -56);
        one(TO_BYTE, 127, 127);
        one(TO_CHAR, -1, 65535);
        one(TO_CHAR, 65536, 0);
        one(TO_SHORT, 40000, -25536);
        one(TO_SHORT, 32767, 32767);
    }

    private static int result(int... code) {
        ByteProcessor x = Images.plain().main(0, NO_PARAMS, 0, 2, code).loaded();
        run(x, 0, 0, 0);
        CHECK.same("returned", x.look(0), 2);
        return x.look(1);
    }

    private static void words() {
        CHECK.same("PUSH -128", result(PUSH, 128, RETV), -128);
        CHECK.same("PUSH 127", result(PUSH, 127, RETV), 127);
        CHECK.same("PUSH w", result(PUSHW, 128, 0, RETV), -32768);
        CHECK.same("PUSH w", result(PUSHW, 1, 255, RETV), 511);
        CHECK.same("PUSH w -1", result(PUSHW, 255, 255, RETV), -1);
        CHECK.same("POP", result(PUSH, 1, PUSH, 2, POP, RETV), 1);
        CHECK.same("DUP", result(PUSH, 3, DUP, MUL, RETV), 9);
        CHECK.same("SWAP", result(PUSH, 3, PUSH, 10, SWAP, SUB, RETV), 7);
        CHECK.same("STORE, INC", result(PUSH, 3, STORE, 1, INC, 1, 250, LOAD, 1, RETV), -3);
    }

    private static void jumps() {
        int[] zero = {25, 26, 27, 28, 29, 30};
        int[] two = {31, 32, 33, 34, 35, 36};
        int[][] pairs = {{0, 0}, {5, 5}, {-3, 2}, {2, -3}, {MIN, MAX}, {MAX, MIN}, {-1, 0}, {1, 0}, {MIN, 0}, {MAX, 0}};
        for (int i = 0; i < 6; i++) {
            ByteProcessor x = Images.plain()
                .main(0, p(0), 0, 1, c(LOAD, 0, zero[i], 7, PUSH, 0, RETV, PUSH, 1, RETV))
                .main(1, p(0, 0), 0, 2, c(LOAD, 0, LOAD, 1, two[i], 9, PUSH, 0, RETV, PUSH, 1, RETV)).loaded();
            for (int[] pair : pairs) {
                CHECK.same("op " + two[i] + " of " + pair[0] + ", " + pair[1], run(x, 1, pair[0], pair[1]).look(1),
                    is(i, pair[0], pair[1]));
                CHECK.same("op " + zero[i] + " of " + pair[0], run(x, 0, pair[0], 0).look(1), is(i, pair[0], 0));
            }
        }
    }

    private static int is(int i, long a, long b) {
        long d = a - b;
        boolean[] all = {d == 0, d != 0, d < 0, d >= 0, d > 0, d <= 0};
        return all[i] ? 1 : 0;
    }

    private static void references() {
        check(IFNULL, c(NULL), 1);
        check(IFNULL, c(NEW, 0), 0);
        check(IFNOTNULL, c(NULL), 0);
        check(IFNOTNULL, c(NEW, 0), 1);
        check(IFREF, c(NULL, NULL), 1);
        check(IFREF, c(NEW, 0, NULL), 0);
        check(IFREF, c(NEW, 0, NEW, 0), 0);
        check(IFREF, c(NEW, 0, DUP), 1);
        check(IFNOTREF, c(NEW, 0, DUP), 0);
        check(IFNOTREF, c(NEW, 0, NEW, 0), 1);
        check(IFNOTREF, c(NULL, NULL), 0);
    }

    private static void check(int op, int[] front, int want) {
        int at = front.length;
        int[] code = java.util.Arrays.copyOf(front, at + 8);
        int[] tail = {op, at + 5, PUSH, 0, RETV, PUSH, 1, RETV};
        System.arraycopy(tail, 0, code, at, 8);
        CHECK.same("op " + op, result(code), want);
    }

    private static void switches() {
        ByteProcessor x = Images.plain().main(0, p(0), 0, 1, c(
            LOAD, 0, SWITCH, 254, 3, 9, 12, 15, 18,     // from -2 on
            PUSH, 99, RETV, PUSH, 10, RETV, PUSH, 11, RETV, PUSH, 12, RETV)).loaded();
        int[][] cases = {{-3, 99}, {-2, 10}, {-1, 11}, {0, 12}, {1, 99}, {MIN, 99}, {MAX, 99}, {MAX - 1, 99}};
        for (int[] one : cases) {
            CHECK.same("SWITCH " + one[0], run(x, 0, one[0], 0).look(1), one[1]);
        }
    }

    private static void rowsAndFields() {
        CHECK.same("SIZE", result(PUSH, 7, ROW, SIZE, RETV), 7);
        CHECK.same("SIZE 0", result(PUSH, 0, ROW, SIZE, RETV), 0);
        CHECK.same("0 at first", result(PUSH, 3, ROW, PUSH, 2, GETAT, RETV), 0);
        CHECK.same("PUT AT", result(PUSH, 3, ROW, STORE, 0, LOAD, 0, PUSH, 2, PUSH, 55, PUTAT, LOAD, 0, PUSH, 2, GETAT,
            LOAD, 0, PUSH, 1, GETAT, ADD, RETV), 55);
        ByteProcessor x = new Images().klass(NO).klass(0, 0).klass(0, 0, 2).klass(2, 1, 0)
            .main(0, NO_PARAMS, 0, 1, c(
                NEW, 3, STORE, 0,
                LOAD, 0, PUSH, 3, PUT, 3, 3,
                LOAD, 0, PUSH, 5, PUT, 2, 0,
                LOAD, 0, LOAD, 0, PUT, 3, 1,
                LOAD, 0, PUSH, 6, ROW, PUT, 3, 2,
                LOAD, 0, GET, 3, 0, LOAD, 0, GET, 3, 3, SUB,
                LOAD, 0, GET, 3, 2, SIZE, MUL, RETV)).loaded();
        run(x, 0, 0, 0);
        CHECK.same("(5 - 3) * 6", x.look(1), 12);
        CHECK.same("words", x.handle(1, 1), 4);
        CHECK.same("word 0", x.word(1, 0), 5);
        CHECK.same("word 1", x.word(1, 1), 1);
        CHECK.same("word 2", x.word(1, 2), 2);
        CHECK.same("word 3", x.word(1, 3), 3);
        CHECK.same("class", x.handle(1, 0), 3);
        CHECK.same("a ROW", x.handle(2, 0), -2);
    }

    /** No INSTRUCTION looks at, or changes, what lies below the words that it takes. */
    private static void below(int steps, int words, int... tail) {
        int[][] fronts = {{PUSHW, 255, 255}, {PUSHW, 0, 0}, {PUSHW, 128, 0}, {PUSHW, 0, 61}, {NULL, NULL, POP}};
        int[] values = {-1, 0, -32768, 61, 0};
        for (int f = 0; f < fronts.length; f++) {
            int[] code = java.util.Arrays.copyOf(fronts[f], 3 + tail.length + 1);
            System.arraycopy(tail, 0, code, 3, tail.length);
            code[3 + tail.length] = RET;
            ByteProcessor x = new Images().klass(NO).klass(0, 0).klass(0, 0).main(0, p(0), NO, 1, code)
                .main(1, p(0), 0, 1, c(LOAD, 0, RETV)).method(2, 0, 0, NO_PARAMS, NO, 1, c(RET)).loaded();
            x.input(9);
            x.begin(0, 5, 0);
            int first = f == 4 ? 3 : 1;
            String what = java.util.Arrays.toString(tail) + " over " + values[f];
            CHECK.same(what + ": go", x.go(first + steps), first + steps);
            CHECK.same(what + ": it RUNS", x.look(0), 1);
            CHECK.same(what + ": PLACE", x.look(4), 3 + tail.length);
            CHECK.same(what + ": words", x.look(6), 4 + 1 + words);
            CHECK.same(what + ": the word below", x.pile(4, 0), values[f]);
            CHECK.same(what + ": its kind", x.pile(4, 1), f == 4 ? 1 : 0);
        }
    }

    private static void belowEach() {
        below(1, 1, PUSH, 3);
        below(1, 1, PUSHW, 3, 3);
        below(1, 1, NULL);
        below(1, 1, LOAD, 0);
        below(2, 0, PUSH, 3, STORE, 0);
        below(2, 0, PUSH, 3, POP);
        below(2, 2, PUSH, 3, DUP);
        below(3, 2, PUSH, 3, PUSH, 4, SWAP);
        for (int op = ADD; op <= URIGHT; op++) {
            below(3, 1, PUSH, 3, PUSH, 4, op);
            below(3, 1, PUSH, 0, PUSH, 4, op);
            if (op != DIV && op != REST) {
                below(3, 1, PUSH, 3, PUSH, 0, op);
            }
        }
        for (int op = NEG; op <= TO_SHORT; op++) {
            below(2, 1, PUSH, 3, op);
            below(2, 1, PUSH, 0, op);
        }
        below(1, 0, INC, 0, 1);
        below(1, 0, JUMP, 5);
        for (int op = IF0; op < IFSAME; op++) {
            below(2, 0, PUSH, 3, op, 7);
        }
        for (int op = IFSAME; op < IFNULL; op++) {
            below(3, 0, PUSH, 3, PUSH, 4, op, 9);
        }
        below(2, 0, NULL, IFNULL, 6);
        below(2, 0, NULL, IFNOTNULL, 6);
        below(3, 0, NULL, NULL, IFREF, 7);
        below(3, 0, NULL, NULL, IFNOTREF, 7);
        below(2, 0, PUSH, 3, SWITCH, 0, 1, 10, 10);
        below(1, 1, NEW, 0);
        below(1, 1, NEW, 2);
        below(2, 1, PUSH, 3, ROW);
        below(3, 1, PUSH, 3, ROW, SIZE);
        below(4, 1, PUSH, 3, ROW, PUSH, 2, GETAT);
        below(5, 0, PUSH, 3, ROW, PUSH, 2, PUSH, 1, PUTAT);
        below(2, 1, NEW, 2, GET, 2, 0);
        below(3, 0, NEW, 2, PUSH, 2, PUT, 2, 0);
        below(4, 1, PUSH, 7, CALL, 1);
        below(3, 0, NEW, 2, CALLV, 2);
        below(3, 0, NEW, 2, CALLX, 2);
        below(2, 1, NEW, 2, CAST, 0);
        below(2, 1, NULL, CAST, 2);
        below(2, 1, NEW, 0, IS, 2);
        below(1, 1, IN);
        below(2, 0, PUSH, 3, OUT);
    }

    private static Images family() {
        return new Images().klass(NO).klass(0, 0).klass(0).klass(2).klass(2);
    }

    private static void calls() {
        int[][] bodies = {{LOAD, 1, PUSH, 10, ADD, RETV}, {LOAD, 1, PUSH, 20, ADD, RETV}};
        ByteProcessor x = family()
            .main(0, p(0, 0), 0, 3, c(
                LOAD, 0, SWITCH, 2, 2, 16, 8, 12,       // 0
                NEW, 2, JUMP, 18,                       // 8
                NEW, 3, JUMP, 18,                       // 12
                NEW, 4,                                 // 16
                STORE, 2, LOAD, 2, LOAD, 1, CALLV, 1,   // 18
                LOAD, 2, LOAD, 1, CALLX, 1, PUSH, 100, MUL, ADD, RETV))
            .method(2, 0, 0, p(0), 0, 2, bodies[0])
            .method(3, 0, 0, p(0), 0, 2, bodies[1]).loaded();
        CHECK.same("class 2", run(x, 0, 2, 1).look(1), 11 + 1100);
        CHECK.same("class 3", run(x, 0, 3, 1).look(1), 21 + 1100);
        CHECK.same("class 4, which has none", run(x, 0, 4, 1).look(1), 11 + 1100);
    }

    /** The words of two frames, one by one. */
    private static void frames() {
        ByteProcessor x = family()
            .main(0, p(0), 1, 2, c(PUSH, 77, NEW, 3, LOAD, 0, NULL, CALLV, 1, RETV))
            .method(2, 9, 0, p(0, 1), 1, 5, c(NEW, 0, PUSH, 2, ROW, RETV)).loaded();
        x.begin(0, -9, 0);
        x.go(5);
        int[] values = {-9, 0, -1, 0, 0, 77, 1, -9, 0, 0, 0, 0, 9, 0};
        int[] kinds = {0, 0, 0, 0, 0, 0, 1, 0, 1, 0, 0, 0, 0, 0};
        CHECK.same("words", x.look(6), 14);
        for (int i = 0; i < 14; i++) {
            CHECK.same("word " + i, x.pile(i, 0), values[i]);
            CHECK.same("kind " + i, x.pile(i, 1), kinds[i]);
        }
        CHECK.thrown("word 14", NoSuchElementException.class, () -> x.pile(14, 0));
        CHECK.thrown("word -1", NoSuchElementException.class, () -> x.pile(-1, 0));
        CHECK.thrown("what 2", NoSuchElementException.class, () -> x.pile(0, 2));
        CHECK.thrown("what -1", NoSuchElementException.class, () -> x.pile(0, -1));
        CHECK.same("method", x.look(3), 1);
        CHECK.same("place", x.look(4), 0);
        CHECK.same("base", x.look(5), 6);
        x.go(3);
        CHECK.same("pushed", x.look(6), 16);
        x.go(1);
        CHECK.same("method behind", x.look(3), 0);
        CHECK.same("place behind", x.look(4), 9);
        CHECK.same("base behind", x.look(5), 0);
        CHECK.same("words behind", x.look(6), 7);
        CHECK.same("the value", x.pile(6, 0), 3);
        CHECK.same("a reference", x.pile(6, 1), 1);
        CHECK.same("go", x.go(5), 1);
        CHECK.same("returned", x.look(0), 2);
        CHECK.same("the row", x.look(1), 3);
        for (int what = 3; what <= 6; what++) {
            CHECK.same("look " + what + " behind the end", x.look(what), what == 6 ? 0 : -1);
        }
        CHECK.thrown("no pile behind the end", NoSuchElementException.class, () -> x.pile(0, 0));
        CHECK.same("the handles stay", x.handle(3, 1), 2);
    }

    private static void withoutResult() {
        ByteProcessor x = Images.plain().main(0, NO_PARAMS, NO, 1, c(PUSH, 5, PUSH, 6, CALL, 1, POP, RET))
            .main(1, p(0), NO, 1, c(LOAD, 0, OUT, PUSH, 1, RET)).loaded();
        run(x, 0, 0, 0);
        CHECK.same("returned", x.look(0), 2);
        CHECK.same("0", x.look(1), 0);
        CHECK.same("done", x.look(2), 9);
        CHECK.same("out", x.out(0), 6);
    }

    private static void stack() {
        // Each frame of method 1 has 20 + 3 words and the one word that its CALL takes is pushed.
        ByteProcessor x = Images.plain().main(0, p(0), NO, 1, c(LOAD, 0, CALL, 1, RET))
            .main(1, p(0), NO, 20, c(LOAD, 0, CALL, 1, RET)).loaded();
        run(x, 0, 1, 0);
        CHECK.same("STACK", x.look(0), 5);
        CHECK.same("no result", x.look(1), 0);
        // The first frame ends at 4; frame i of method 1 begins at 4 + 23 * i; the last one with 4 + 23 * i + 39 <= 400 is 15.
        CHECK.same("done", x.look(2), 2 * 17);
        x.begin(0, 1, 0);
        x.go(33);
        CHECK.same("it runs still", x.look(0), 1);
        CHECK.same("base", x.look(5), 4 + 23 * 15);
        CHECK.same("words", x.look(6), 4 + 23 * 16 + 1);
        CHECK.same("go", x.go(10), 1);
        CHECK.same("go", x.go(10), 0);
        ByteProcessor y = Images.plain().main(0, p(0), NO, 1, c(CALL, 1, RET))
            .main(1, NO_PARAMS, NO, 0, c(CALL, 1, RET)).loaded();
        y.begin(0, 0, 0);
        y.go(127);
        CHECK.same("4 + 3 * 127 = 385 and 16 are over 400", y.look(0), 5);
        y.begin(0, 0, 0);
        y.go(126);
        CHECK.same("382 and 16 are not", y.look(0), 1);
        CHECK.same("words", y.look(6), 382);
    }

    /** 381 words below the frame, its three and 16 more are 400, which is not too much. */
    private static void stackJustFits() {
        ByteProcessor x = Images.plain().main(0, NO_PARAMS, NO, 0, c(CALL, 0, RET)).loaded();
        x.begin(0, 0, 0);
        x.go(127);
        CHECK.same("it runs", x.look(0), 1);
        CHECK.same("base", x.look(5), 381);
        x.go(1);
        CHECK.same("STACK", x.look(0), 5);
    }

    /** The METHOD that the object's class has decides about STACK, and null is ahead of it. */
    private static void stackOfTable() {
        Images i = family()
            .main(0, p(0), NO, 2, c(LOAD, 0, IF0, 8, NEW, 3, JUMP, 9, NULL, CALLV, 1, RET))
            .method(2, 1, 0, NO_PARAMS, NO, 1, c(RET))
            .method(3, 1, 0, NO_PARAMS, NO, 20, c(LOAD, 0, CALLV, 1, RET));
        ByteProcessor x = new ByteProcessor(16, 64, 256, 0);
        CHECK.same("load", i.loadInto(x), 0);
        run(x, 0, 1, 0);
        CHECK.same("STACK", x.look(0), 5);
        run(x, 0, 0, 0);
        CHECK.same("THROWN", x.look(0), 3);
        CHECK.same("trap 1", x.word(x.look(1), 0), 1);
    }

    private static void trap(String what, int number, int... code) {
        // Method 1 has the code, method 0 catches: what it puts out is the trap's number.
        int[] handled = java.util.Arrays.copyOf(code, code.length + 4);
        int[] tail = {GET, 1, 0, RETV};
        System.arraycopy(tail, 0, handled, code.length, 4);
        ByteProcessor x = new Images().klass(NO).klass(0, 0, 1).klass(0, 0, 4).klass(2)
            .main(0, NO_PARAMS, 0, 1, handled, new int[] {0, code.length, code.length, 1})
            .main(1, NO_PARAMS, 0, 1, code)
            .method(2, 0, 0, p(0), 0, 2, c(PUSH, 0, RETV)).loaded();
        run(x, 0, 0, 0);
        CHECK.same(what + ": caught", x.look(0), 2);
        CHECK.same(what + ": number", x.look(1), number);
        run(x, 1, 0, 0);
        CHECK.same(what + ": thrown", x.look(0), 3);
        int h = x.look(1);
        CHECK.same(what + ": class", x.handle(h, 0), 1);
        CHECK.same(what + ": words", x.handle(h, 1), 2);
        CHECK.same(what + ": number thrown", x.word(h, 0), number);
        CHECK.same(what + ": null", x.word(h, 1), 0);
    }

    private static void traps() {
        trap("SIZE", 1, NULL, SIZE, RETV);
        trap("GET AT", 1, NULL, PUSH, 0, GETAT, RETV);
        trap("GET AT outside and null", 1, NULL, PUSH, 255, GETAT, RETV);
        trap("PUT AT", 1, NULL, PUSH, 255, PUSH, 1, PUTAT, PUSH, 0, RETV);
        trap("GET", 1, NULL, GET, 2, 0, RETV);
        trap("PUT", 1, NULL, PUSH, 1, PUT, 2, 0, PUSH, 0, RETV);
        trap("PUT a reference", 1, NULL, NULL, PUT, 2, 1, PUSH, 0, RETV);
        trap("CALL 50", 1, NULL, PUSH, 3, CALLV, 2, RETV);
        trap("CALL 51", 1, NULL, PUSH, 3, CALLX, 2, RETV);
        trap("THROW", 1, NULL, THROW);
        trap("GET AT -1", 2, PUSH, 3, ROW, PUSH, 255, GETAT, RETV);
        trap("GET AT 3", 2, PUSH, 3, ROW, PUSH, 3, GETAT, RETV);
        trap("GET AT of none", 2, PUSH, 0, ROW, PUSH, 0, GETAT, RETV);
        trap("PUT AT 3", 2, PUSH, 3, ROW, PUSH, 3, PUSH, 1, PUTAT, PUSH, 0, RETV);
        trap("PUT AT -1", 2, PUSH, 3, ROW, PUSH, 255, PUSH, 1, PUTAT, PUSH, 0, RETV);
        trap("/", 3, PUSH, 3, PUSH, 0, DIV, RETV);
        trap("REST", 3, PUSH, 3, PUSH, 0, REST, RETV);
        trap("CAST to below", 4, NEW, 2, CAST, 3, POP, PUSH, 0, RETV);
        trap("CAST to aside", 4, NEW, 3, CAST, 1, POP, PUSH, 0, RETV);
        trap("ROW -1", 5, PUSH, 255, ROW, SIZE, RETV);
        trap("ROW -32768", 5, PUSHW, 128, 0, ROW, SIZE, RETV);
        trap("IN", 6, IN, RETV);
        CHECK.same("CAST null", result(NULL, CAST, 1, IFNULL, 8, PUSH, 0, RETV, PUSH, 1, RETV), 1);
        CHECK.same("IS null", result(NULL, IS, 0, RETV), 0);
        CHECK.same("IS the same", result(NEW, 1, IS, 1, RETV), 1);
        CHECK.same("IS above", result(NEW, 1, IS, 0, RETV), 1);
        CHECK.same("IS below", result(NEW, 0, IS, 1, RETV), 0);
    }

    /** A TRAP takes nothing: the PILE is as it was until its frame pushes go. */
    private static void takesNothing() {
        ByteProcessor x = Images.plain().main(0, NO_PARAMS, NO, 0,
            c(PUSH, 1, PUSH, 2, PUSH, 0, DIV, POP, POP, RET, DUP, POP, JUMP, 10), new int[] {6, 7, 10, 0}).loaded();
        x.begin(0, 0, 0);
        x.go(4);
        CHECK.same("words", x.look(6), 4);
        CHECK.same("the object", x.pile(3, 0), 1);
        CHECK.same("a reference", x.pile(3, 1), 1);
        CHECK.same("place", x.look(4), 10);
        CHECK.same("done", x.look(2), 4);
    }

    private static void handlers() {
        // Method 1 throws an object of the class that it is told; the first handler that is right by place and class counts.
        Images i = family()
            .main(0, p(0), 0, 1, c(
                LOAD, 0, CALL, 1,                   // 0, 2
                PUSH, 0, RETV,                      // 4, 6
                POP, PUSH, 1, RETV,                 // 7
                POP, PUSH, 2, RETV,                 // 11
                POP, PUSH, 3, RETV),                // 15
                new int[] {3, 4, 7, 0}, new int[] {2, 3, 7, 3}, new int[] {0, 4, 11, 2}, new int[] {2, 7, 15, 0})
            .main(1, p(0), NO, 1, c(
                LOAD, 0, SWITCH, 1, 4, 10, 13, 16, 19, 22,  // 0
                NEW, 0, THROW, NEW, 1, THROW, NEW, 2, THROW, NEW, 3, THROW, NEW, 4, THROW));
        ByteProcessor x = new ByteProcessor(16, 64, 256, 0);
        CHECK.same("load", i.loadInto(x), 0);
        CHECK.same("class 0", run(x, 0, 0, 0).look(1), 3);
        CHECK.same("class 1", run(x, 0, 1, 0).look(1), 3);
        CHECK.same("class 2", run(x, 0, 2, 0).look(1), 2);
        CHECK.same("class 3", run(x, 0, 3, 0).look(1), 1);
        CHECK.same("class 4", run(x, 0, 4, 0).look(1), 2);
        run(x, 1, 3, 0);
        CHECK.same("THROWN", x.look(0), 3);
        CHECK.same("its handle", x.look(1), 1);
        CHECK.same("its class", x.handle(1, 0), 3);
        CHECK.same("words", x.look(6), 0);
    }

    /** FROM counts, TO does not. */
    private static void covered() {
        for (int from = 0; from <= 3; from++) {
            for (int to = from + 1; to <= 4; to++) {
                ByteProcessor x = Images.plain().main(0, NO_PARAMS, 0, 0,
                    c(NULL, NULL, SIZE, RETV, POP, PUSH, 1, RETV), new int[] {from, to, 4, 1}).loaded();
                run(x, 0, 0, 0);
                CHECK.same("from " + from + " to " + to, x.look(0), from <= 2 && to > 2 ? 2 : 3);
            }
        }
    }

    /** The frames between go, and the pile is cut to the frame that catches. */
    private static void unwinding() {
        ByteProcessor x = Images.plain()
            .main(0, p(0), 0, 1, c(
                PUSH, 5, PUSH, 6, LOAD, 0, CALL, 1, RETV,   // 0 2 4 6 8
                DUP, POP, JUMP, 9), new int[] {6, 7, 9, 1})
            .main(1, p(0), 0, 3, c(PUSH, 9, LOAD, 0, DUP, IF0, 13, PUSH, 1, SUB, CALL, 1, RETV, PUSH, 1, SWAP, DIV, RETV)).loaded();
        x.begin(0, 4, 0);
        x.go(12);
        CHECK.same("two frames more", x.look(5), 3 + 1 + 2 + 6 + 1);
        x.go(28);
        CHECK.same("in the handler", x.look(3), 0);
        CHECK.same("its place", x.look(4), 10);
        CHECK.same("its base", x.look(5), 0);
        CHECK.same("its words", x.look(6), 6);
        CHECK.same("the trap", x.word(x.pile(4, 0), 0), 3);
    }

    private static void output() {
        ByteProcessor x = Images.plain().main(0, p(0), 0, 1, c(LOAD, 0, OUT, INC, 0, 1, JUMP, 0)).loaded();
        x.begin(0, 1000, 0);
        CHECK.same("go", x.go(4 * 199), 796);
        CHECK.same("199", x.look(20), 199);
        x.go(8);
        CHECK.same("200", x.look(20), 200);
        x.go(4000);
        CHECK.same("what is more is lost", x.look(20), 200);
        CHECK.same("the first", x.out(0), 1000);
        CHECK.same("the last", x.out(199), 1199);
        CHECK.thrown("number 200", NoSuchElementException.class, () -> x.out(200));
        CHECK.thrown("number -1", NoSuchElementException.class, () -> x.out(-1));
        CHECK.same("go(100000)", x.go(100000), 100000);
        CHECK.same("done", x.look(2), 104804);
        CHECK.thrown("go(100001)", IllegalArgumentException.class, () -> x.go(100001));
        CHECK.thrown("go(0)", IllegalArgumentException.class, () -> x.go(0));
        CHECK.same("done still", x.look(2), 104804);
        x.begin(0, 7, 0);
        CHECK.same("empty", x.look(20), 0);
        CHECK.thrown("none", NoSuchElementException.class, () -> x.out(0));
    }

    public static void main(String[] args) {
        reckoning();
        words();
        jumps();
        references();
        switches();
        rowsAndFields();
        belowEach();
        calls();
        frames();
        withoutResult();
        stack();
        stackJustFits();
        stackOfTable();
        traps();
        takesNothing();
        handlers();
        covered();
        unwinding();
        output();
        CHECK.end();
    }
}
