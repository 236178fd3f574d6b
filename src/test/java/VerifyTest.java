/** Promises 4, 5, 7 and 9: why a method is wrong and where, and the states of one that is right. */
public final class VerifyTest extends Ops {
    private static final Check CHECK = new Check("VerifyTest");

    private VerifyTest() {
    }

    /** Classes 2 and 3 (below 2), 4 (below 3), 5 (below 2); METHOD 0 is what is looked at, 1 is STATIC, 2 and 3 are not. */
    private static Images around(int[] params, int result, int locals, int[] code, int[]... handlers) {
        return new Images().klass(NO).klass(0, 0).klass(0, 0, 4).klass(2, 1).klass(3).klass(2)
            .main(0, params, result, locals, code, handlers)
            .main(1, p(0, 4), 1, 2, c(NULL, RETV))
            .method(2, 0, 0, p(1), 5, 2, c(NULL, RETV))
            .method(4, 5, 0, p(), NO, 1, c(RET));
    }

    private static void wrong(String what, int why, int where, Images image) {
        ByteProcessor x = new ByteProcessor(2, 8, 16, 0);
        CHECK.same(what + ": load", image.loadInto(x), 2);
        CHECK.same(what + ": answer", x.fault(0), 2);
        CHECK.same(what + ": byte", x.fault(1), -1);
        CHECK.same(what + ": method", x.fault(2), 0);
        CHECK.same(what + ": why", x.fault(3), why);
        CHECK.same(what + ": where", x.fault(4), where);
        CHECK.same(what + ": no image", x.look(25), 0);
    }

    private static void wrong(String what, int why, int where, int... code) {
        wrong(what, why, where, around(p(), NO, 3, code));
    }

    private static void right(String what, int... code) {
        right(what, around(p(), NO, 3, code));
    }

    private static ByteProcessor right(String what, Images image) {
        ByteProcessor x = new ByteProcessor(2, 8, 16, 0);
        CHECK.same(what + ": load", image.loadInto(x), 0);
        CHECK.same(what + ": why", x.fault(3), -1);
        return x;
    }

    private static void instructions() {
        for (int op = 59; op <= 255; op++) {
            wrong("op " + op, 1, 1, NULL, op, RET);
        }
        wrong("the first why", 1, 2, PUSH, 59, 60, LOAD);
        int[] two = {0, 3, 4, 23, 24, 30, 31, 36, 40, 42, 49, 50, 51, 55, 56};
        for (int op : two) {
            wrong("short " + op, 2, 1, NULL, op);
        }
        wrong("short w", 2, 0, PUSHW, 1);
        wrong("short INC", 2, 0, INC, 0);
        wrong("short GET", 2, 0, GET, 1);
        wrong("short PUT", 2, 0, PUT, 1);
        wrong("LOAD 3", 2, 1, RET, LOAD, 3);
        wrong("STORE 3", 2, 1, RET, STORE, 3);
        wrong("INC 3", 2, 1, RET, INC, 3, 0);
        right("LOAD 2", RET, LOAD, 2);
        right("INC 2", RET, INC, 2, 255);
        wrong("NEW 6", 2, 1, RET, NEW, 6);
        right("NEW 5", RET, NEW, 5);
        wrong("CAST 6", 2, 1, RET, CAST, 6);
        wrong("IS 255", 2, 1, RET, IS, 255);
        wrong("GET of class 6", 2, 1, RET, GET, 6, 0);
        wrong("GET of class 0", 2, 1, RET, GET, 0, 0);
        wrong("GET 2 2", 2, 1, RET, GET, 2, 2);
        right("GET 4 2", RET, GET, 4, 2);
        wrong("GET 4 3", 2, 1, RET, GET, 4, 3);
        wrong("PUT 3 3", 2, 1, RET, PUT, 3, 3);
        wrong("CALL of no method", 2, 1, RET, CALL, 4);
        wrong("CALL of one that is not STATIC", 2, 1, RET, CALL, 2);
        wrong("CALL 50 of a STATIC one", 2, 1, RET, CALLV, 1);
        wrong("CALL 51 of a STATIC one", 2, 1, RET, CALLX, 0);
        right("CALL itself", RET, CALL, 0, CALLV, 2, CALLX, 3);
    }

    private static void switches() {
        wrong("SWITCH alone", 2, 1, RET, SWITCH);
        wrong("SWITCH b", 2, 1, RET, SWITCH, 0);
        wrong("SWITCH b k", 2, 1, RET, SWITCH, 0, 1);
        wrong("SWITCH b k t", 2, 1, RET, SWITCH, 0, 1, 0);
        right("SWITCH b k t t", RET, SWITCH, 0, 1, 0, 0);
        wrong("k 2, two t", 2, 1, RET, SWITCH, 0, 2, 0, 0);
        wrong("k 0", 2, 1, RET, SWITCH, 0, 0, 0, 0);
        right("k 8", RET, SWITCH, 0, 8, 0, 0, 0, 0, 0, 0, 0, 0, 0);
        wrong("k 9", 2, 1, RET, SWITCH, 0, 9, 0, 0, 0, 0, 0, 0, 0, 0, 0, 0);
        wrong("the first t", 3, 1, RET, SWITCH, 0, 1, 2, 0);
        wrong("the last t", 3, 1, RET, SWITCH, 0, 2, 0, 1, 7);
        right("its own place", RET, SWITCH, 0, 2, 0, 1, 1);
    }

    private static void targets() {
        for (int op = 24; op <= 40; op++) {
            wrong("into an operand " + op, 3, 1, RET, op, 2);
            wrong("at the end " + op, 3, 1, RET, op, 3);
            wrong("far behind " + op, 3, 1, RET, op, 255);
            right("itself " + op, RET, op, 1);
        }
        wrong("3 behind all of 2", 2, 3, RET, JUMP, 2, LOAD, 9);
        wrong("a HANDLER's", 3, 1, around(p(), NO, 0, c(PUSH, 0, POP, RET), new int[] {0, 4, 3, 0}, new int[] {0, 1, 1, 0}));
        wrong("a TARGET ahead of a HANDLER's", 3, 2,
            around(p(), NO, 0, c(PUSH, 0, JUMP, 3, RET), new int[] {0, 4, 1, 0}));
    }

    /** Each takes what it takes: with fewer on the pile it is 4. */
    private static void tooFew() {
        int[][] takers = {
            {1, STORE, 0}, {1, POP}, {1, DUP}, {2, SWAP}, {2, ADD}, {2, SUB}, {2, MUL}, {2, DIV}, {2, REST}, {2, AND}, {2, OR},
            {2, XOR}, {2, LEFT}, {2, RIGHT}, {2, URIGHT}, {1, NEG}, {1, TO_BYTE}, {1, TO_CHAR}, {1, TO_SHORT}, {1, 25, 0},
            {1, 26, 0}, {1, 27, 0}, {1, 28, 0}, {1, 29, 0}, {1, 30, 0}, {2, 31, 0}, {2, 32, 0}, {2, 33, 0}, {2, 34, 0},
            {2, 35, 0}, {2, 36, 0}, {1, 37, 0}, {1, 38, 0}, {2, 39, 0}, {2, 40, 0}, {1, SWITCH, 0, 1, 0, 0}, {1, ROW}, {1, SIZE},
            {2, GETAT}, {3, PUTAT}, {1, GET, 2, 0}, {2, PUT, 2, 0}, {2, CALL, 1}, {2, CALLV, 2}, {1, CALLV, 3}, {2, CALLX, 2},
            {1, RETV}, {1, THROW}, {1, CAST, 0}, {1, IS, 0}, {1, OUT}};
        for (int[] t : takers) {
            for (int have = 0; have < t[0]; have++) {
                int[] code = new int[2 * have + t.length - 1 + 1];
                for (int i = 0; i < have; i++) {
                    code[2 * i] = PUSH;
                }
                System.arraycopy(t, 1, code, 2 * have, t.length - 1);
                code[code.length - 1] = RET;
                wrong("op " + t[1] + " with " + have, 4, 2 * have, code);
            }
        }
    }

    private static void noFit() {
        int[] ints = {ADD, SUB, MUL, DIV, REST, AND, OR, XOR, LEFT, RIGHT, URIGHT};
        for (int op : ints) {
            wrong("second of " + op, 5, 3, PUSH, 0, NULL, op, RET);
            wrong("first of " + op, 5, 3, NULL, PUSH, 0, op, RET);
            right("both of " + op, PUSH, 0, PUSH, 0, op, RET);
        }
        int[] one = {NEG, TO_BYTE, TO_CHAR, TO_SHORT, ROW, OUT};
        for (int op : one) {
            wrong("int of " + op, 5, 1, NULL, op, RET);
            right("int of " + op, PUSH, 0, op, RET);
        }
        for (int op = 25; op <= 30; op++) {
            wrong("int of " + op, 5, 1, NULL, op, 3, RET);
            right("int of " + op, PUSH, 0, op, 4, RET);
        }
        for (int op = 31; op <= 36; op++) {
            wrong("ints of " + op, 5, 3, PUSH, 0, NULL, op, 5, RET);
            right("ints of " + op, PUSH, 0, PUSH, 0, op, 6, RET);
        }
        for (int op = 37; op <= 38; op++) {
            wrong("reference of " + op, 5, 2, PUSH, 0, op, 4, RET);
            right("null of " + op, NULL, op, 3, RET);
            right("row of " + op, PUSH, 0, ROW, op, 5, RET);
            right("object of " + op, NEW, 0, op, 4, RET);
        }
        for (int op = 39; op <= 40; op++) {
            wrong("second of " + op, 5, 3, NULL, PUSH, 0, op, 5, RET);
            wrong("first of " + op, 5, 3, PUSH, 0, NULL, op, 5, RET);
            right("object and row of " + op, NEW, 0, PUSH, 0, ROW, op, 7, RET);
        }
        wrong("SWITCH", 5, 1, NULL, SWITCH, 0, 1, 6, 6, RET);
        wrong("SIZE of an object", 5, 2, NEW, 0, SIZE, POP, RET);
        wrong("SIZE of an int", 5, 2, PUSH, 0, SIZE, POP, RET);
        right("SIZE of null", NULL, SIZE, POP, RET);
        wrong("GET AT of ints", 5, 4, PUSH, 0, PUSH, 0, GETAT, POP, RET);
        wrong("GET AT null", 5, 2, NULL, NULL, GETAT, POP, RET);
        wrong("PUT AT a reference", 5, 4, NULL, PUSH, 0, NULL, PUTAT, RET);
        right("PUT AT", NULL, PUSH, 0, PUSH, 0, PUTAT, RET);
    }

    private static void noFitObjects() {
        wrong("GET of a class above", 5, 2, NEW, 2, GET, 3, 0, POP, RET);
        wrong("GET of a class aside", 5, 2, NEW, 5, GET, 3, 0, POP, RET);
        right("GET of a class below", NEW, 4, GET, 2, 1, POP, RET);
        right("GET of null", NULL, GET, 2, 1, POP, RET);
        wrong("GET of a row", 5, 3, PUSH, 0, ROW, GET, 2, 1, POP, RET);
        wrong("PUT of a class above", 5, 4, NEW, 2, NEW, 0, PUT, 2, 1, RET);
        wrong("PUT of an int to a reference", 5, 4, NEW, 2, PUSH, 0, PUT, 2, 1, RET);
        wrong("PUT of null to an int", 5, 3, NEW, 2, NULL, PUT, 2, 0, RET);
        right("PUT of a class below", NEW, 5, NEW, 4, PUT, 2, 1, RET);
        right("PUT of a row", NEW, 3, PUSH, 0, ROW, PUT, 3, 2, RET);
        wrong("PUT of an object to a ROW", 5, 4, NEW, 3, NEW, 3, PUT, 3, 2, RET);
        wrong("CALL's first", 5, 2, NULL, NULL, CALL, 1, RET);
        wrong("CALL's second", 5, 4, PUSH, 0, NEW, 1, CALL, 1, RET);
        right("CALL", PUSH, 0, NEW, 4, CALL, 1, SIZE, POP, RET);
        wrong("CALL 50's object", 5, 3, NEW, 1, NULL, CALLV, 2, RET);
        wrong("CALL 51's object is of a class above", 5, 2, NEW, 3, CALLX, 3, RET);
        right("CALL 50", NEW, 4, NULL, CALLV, 2, GET, 3, 2, POP, RET);
        right("CALL 51", NEW, 4, CALLX, 3, RET);
        wrong("THROW a row", 5, 3, PUSH, 0, ROW, THROW);
        wrong("THROW an int", 5, 2, PUSH, 0, THROW);
        right("THROW null", NULL, THROW);
        right("THROW", NEW, 0, THROW);
        wrong("CAST a row", 5, 3, PUSH, 0, ROW, CAST, 0, RET);
        wrong("IS of an int", 5, 2, PUSH, 0, IS, 0, RET);
        right("CAST aside", NEW, 5, CAST, 4, GET, 3, 2, SIZE, POP, RET);
        right("IS gives an int", NULL, IS, 5, OUT, RET);
        wrong("LOAD of NOTHING", 5, 0, LOAD, 2, POP, RET);
        wrong("INC of NOTHING", 5, 0, INC, 2, 1, RET);
        wrong("INC of null", 5, 3, NULL, STORE, 2, INC, 2, 1, RET);
        wrong("52 with a RESULT", 5, 0, around(p(), 0, 0, c(RET)));
        wrong("53 without one", 5, 2, around(p(), NO, 0, c(PUSH, 0, RETV)));
        wrong("53 without one and a pile", 4, 0, around(p(), NO, 0, c(RETV)));
        wrong("53 of another type", 5, 1, around(p(), 0, 0, c(NULL, RETV)));
        wrong("53 of a class above", 5, 2, around(p(), 5, 0, c(NEW, 2, RETV)));
        right("53 of a class below", around(p(), 5, 0, c(NEW, 4, RETV)));
        right("53 with more below", around(p(), 0, 0, c(NULL, PUSH, 4, RETV)));
        right("52 with more below", NULL, PUSH, 4, RET);
    }

    /** Each value for each TYPE that is wanted: by a CALL, by RETURN and by PUT. */
    private static void fitsEach() {
        int[][] values = {{PUSH, 0}, {PUSH, 0, ROW}, {NULL}, {NEW, 0}, {NEW, 1}, {NEW, 2}, {NEW, 3}, {NEW, 4}, {NEW, 5}};
        // One row for each value: whether it fits INT, ROW, classes 0 to 5.
        int[][] want = {
            {1, 0, 0, 0, 0, 0, 0, 0},
            {0, 1, 0, 0, 0, 0, 0, 0},
            {0, 1, 1, 1, 1, 1, 1, 1},
            {0, 0, 1, 0, 0, 0, 0, 0},
            {0, 0, 1, 1, 0, 0, 0, 0},
            {0, 0, 1, 0, 1, 0, 0, 0},
            {0, 0, 1, 0, 1, 1, 0, 0},
            {0, 0, 1, 0, 1, 1, 1, 0},
            {0, 0, 1, 0, 1, 0, 0, 1}};
        for (int v = 0; v < values.length; v++) {
            for (int type = 0; type < 8; type++) {
                String what = "value " + v + " for TYPE " + type;
                fitsOrNot(what + " as a PARAMETER", want[v][type] == 1, type, NO, c(), values[v], c(CALL, 1, RET));
                fitsOrNot(what + " as a RESULT", want[v][type] == 1, type, type, c(), values[v], c(RETV));
                fitsOrNot(what + " as a field", want[v][type] == 1, type, NO, c(NEW, 6), values[v], c(PUT, 6, 0, RET));
            }
        }
    }

    private static void fitsOrNot(String what, boolean want, int type, int result, int[] front, int[] value, int[] tail) {
        int at = front.length + value.length;
        int[] code = java.util.Arrays.copyOf(front, at + tail.length);
        System.arraycopy(value, 0, code, front.length, value.length);
        System.arraycopy(tail, 0, code, at, tail.length);
        Images i = new Images().klass(NO).klass(0, 0).klass(0).klass(2).klass(3).klass(2).klass(0, type)
            .main(0, p(), result, 0, code).main(1, p(type), NO, 1, c(RET));
        if (want) {
            right(what, i);
        } else {
            wrong(what, 5, at, i);
        }
    }

    private static int[] pushes(int n, int... tail) {
        int[] code = new int[2 * n + tail.length];
        System.arraycopy(tail, 0, code, 2 * n, tail.length);
        return code;
    }

    private static void tooMany() {
        right("16", pushes(16, RET));
        wrong("17", 6, 32, pushes(17, RET));
        wrong("DUP", 6, 32, pushes(16, DUP, RET));
        right("SWAP", pushes(16, SWAP, NEG, RET));
        wrong("NULL", 6, 32, pushes(16, NULL, RET));
        wrong("LOAD", 6, 32, around(p(0), NO, 1, pushes(16, LOAD, 0, RET)));
        wrong("NEW", 6, 32, pushes(16, NEW, 0, RET));
        wrong("IN", 6, 32, pushes(16, IN, RET));
        right("ROW", pushes(16, ROW, RET));
        wrong("w", 6, 32, pushes(16, PUSHW, 0, 0, RET));
        wrong("5 ahead of 6", 5, 32, pushes(16, LOAD, 0, RET));
        Images calls = Images.plain().main(0, p(), NO, 0, pushes(16, CALL, 1, RET)).main(1, p(), 0, 0, c(PUSH, 0, RETV));
        wrong("CALL with a RESULT", 6, 32, calls);
        right("CALL without one", Images.plain().main(0, p(), NO, 0, pushes(16, CALL, 1, RET)).main(1, p(), NO, 0, c(RET)));
    }

    private static void fallsOff() {
        wrong("behind the last", 7, 0, PUSH, 1);
        wrong("a JUMP if", 7, 2, PUSH, 1, IF0, 0);
        wrong("INC", 7, 4, PUSH, 0, STORE, 0, INC, 0, 1);
        right("JUMP", JUMP, 0);
        right("SWITCH", IN, SWITCH, 0, 1, 0, 0);
        right("never come to", RET, PUSH, 0);
        wrong("8 of a HANDLER ahead of 7", 8, 2,
            around(p(), NO, 0, c(PUSH, 0, IN), new int[] {2, 3, 0, 0}));
        wrong("7 ahead of 8 of a TARGET", 7, 3, PUSH, 0, DUP, IF0, 0);
        wrong("7 alone of one that can't throw", 7, 2,
            around(p(), NO, 0, c(PUSH, 0, NEG), new int[] {2, 3, 0, 0}));
    }

    private static void joins() {
        wrong("other sizes", 8, 2, PUSH, 0, JUMP, 0);
        wrong("other sizes forward", 8, 4, PUSH, 0, IF0, 6, PUSH, 1, RET);
        right("int and int", PUSH, 1, PUSH, 0, IF0, 9, POP, PUSH, 2, NEG, RET);
        wrong("int and null", 8, 7, PUSH, 1, PUSH, 0, IF0, 8, POP, NULL, POP, RET);
        wrong("row and object", 8, 8, PUSH, 0, ROW, PUSH, 0, IF0, 10, POP, NEW, 2, POP, RET);
        right("null and row", NULL, PUSH, 0, IF0, 9, POP, PUSH, 1, ROW, SIZE, POP, RET);
        right("row and null", PUSH, 1, ROW, PUSH, 0, IF0, 9, POP, NULL, SIZE, POP, RET);
        Images two = around(p(0), NO, 2, c(
            NEW, 4, LOAD, 0, IF0, 9, POP, NEW, 5, GET, 2, 0, POP, RET));
        ByteProcessor x = right("two classes", two);
        CHECK.same("the nearest above both", x.type(0, 9, 100), 2 + 2);
        two = around(p(0), NO, 2, c(NEW, 4, LOAD, 0, IF0, 9, POP, NEW, 3, POP, RET));
        CHECK.same("one of them", right("below", two).type(0, 9, 100), 2 + 3);
        two = around(p(0), NO, 2, c(NEW, 3, LOAD, 0, IF0, 9, POP, NEW, 4, POP, RET));
        CHECK.same("one of them, the other way", right("below", two).type(0, 9, 100), 2 + 3);
        two = around(p(0), NO, 2, c(NEW, 1, LOAD, 0, IF0, 9, POP, NEW, 4, POP, RET));
        CHECK.same("class 0", right("aside", two).type(0, 9, 100), 2);
        wrong("a joined one fits no more", 5, 9, around(p(0), NO, 2, c(
            NEW, 4, LOAD, 0, IF0, 9, POP, NEW, 5, GET, 3, 0, POP, RET)));
    }

    private static void localJoins() {
        int[][] values = {{PUSH, 0}, {PUSH, 0, ROW}, {NULL}, {NEW, 2}, {NEW, 4}, {NEW, 5}, {NEW, 1}, {}};
        int nothing = -3;
        int[][] want = {
            {0, nothing, nothing, nothing, nothing, nothing, nothing, nothing},
            {nothing, 1, 1, nothing, nothing, nothing, nothing, nothing},
            {nothing, 1, -2, 4, 6, 7, 3, nothing},
            {nothing, nothing, 4, 4, 4, 4, 2, nothing},
            {nothing, nothing, 6, 4, 6, 4, 2, nothing},
            {nothing, nothing, 7, 4, 4, 7, 2, nothing},
            {nothing, nothing, 3, 2, 2, 2, 3, nothing},
            {nothing, nothing, nothing, nothing, nothing, nothing, nothing, nothing}};
        for (int a = 0; a < values.length; a++) {
            for (int b = 0; b < values.length; b++) {
                java.util.List<Integer> code = new java.util.ArrayList<>(java.util.List.of(LOAD, 0, IF0, 0));
                store(code, values[a]);
                code.add(JUMP);
                code.add(0);
                int jump = code.size() - 1;
                code.set(3, code.size());
                store(code, values[b]);
                code.set(jump, code.size());
                int end = code.size();
                code.add(RET);
                ByteProcessor x = right("locals " + a + " " + b,
                    around(p(0), NO, 2, code.stream().mapToInt(v -> v).toArray()));
                CHECK.same("local " + a + " with " + b, x.type(0, end, 1), want[a][b]);
                CHECK.same("the other local", x.type(0, end, 0), 0);
            }
        }
    }

    private static void store(java.util.List<Integer> code, int[] value) {
        for (int v : value) {
            code.add(v);
        }
        if (value.length > 0) {
            code.add(STORE);
            code.add(1);
        }
    }

    private static void states() {
        Images i = around(p(0, 5, 1), 4, 5, c(
            PUSH, 3,        // 0
            STORE, 3,       // 2
            LOAD, 1,        // 4
            DUP,            // 6
            IFNULL, 14,     // 7
            NULL, SWAP,     // 9
            POP,            // 11
            RETV, RET,      // 12: RET is never come to
            POP,            // 14
            LOAD, 2, SIZE,  // 15
            CALL, 4,        // 18
            RETV));         // 20
        i.method(5, 1, 1, p(0), 6, 1, c(NEW, 4, RETV));
        ByteProcessor x = right("states", i);
        CHECK.same("pile at 0", x.type(0, 0, -1), 0);
        CHECK.same("local 0", x.type(0, 0, 0), 0);
        CHECK.same("local 1", x.type(0, 0, 1), 5);
        CHECK.same("local 2", x.type(0, 0, 2), 1);
        CHECK.same("local 3", x.type(0, 0, 3), -3);
        CHECK.same("local 4", x.type(0, 0, 4), -3);
        CHECK.same("no local 5", x.type(0, 0, 5), -1);
        CHECK.same("no word", x.type(0, 0, 100), -1);
        CHECK.same("i -2", x.type(0, 0, -2), -1);
        CHECK.same("i 99", x.type(0, 0, 99), -1);
        CHECK.same("a word at 2", x.type(0, 2, 100), 0);
        CHECK.same("no place", x.type(0, 1, -1), -1);
        CHECK.same("local 3 at 4", x.type(0, 4, 3), 0);
        CHECK.same("pile at 7", x.type(0, 7, -1), 2);
        CHECK.same("word 1 at 7", x.type(0, 7, 101), 5);
        CHECK.same("word 2 at 7", x.type(0, 7, 102), -1);
        CHECK.same("null at 11", x.type(0, 11, 100), -2);
        CHECK.same("below the top at 11", x.type(0, 11, 101), 5);
        CHECK.same("never come to", x.type(0, 13, -1), -1);
        CHECK.same("never come to, a local", x.type(0, 13, 0), -1);
        CHECK.same("the result", x.type(0, 20, 100), 6);
        CHECK.same("behind the code", x.type(0, 21, -1), -1);
        CHECK.same("place -1", x.type(0, -1, -1), -1);
        CHECK.same("method -1", x.type(-1, 0, -1), -1);
        CHECK.same("method 5", x.type(5, 0, -1), -1);
        CHECK.same("the object", x.type(2, 0, 0), 4);
        CHECK.same("its parameter", x.type(2, 0, 1), 1);
        CHECK.same("places with a state", x.method(0, 8), 14);
        CHECK.same("each done once", x.method(0, 9), 14);
    }

    /** Below what each INSTRUCTION takes lies a ROW, which stays; its LOCALS are an int, one of class 3, and NOTHING. */
    private static void gives(String what, int[] front, int[] op, int... want) {
        int at = 3 + front.length;
        int[] code = java.util.Arrays.copyOf(c(PUSH, 0, ROW), at + op.length + 1);
        System.arraycopy(front, 0, code, 3, front.length);
        System.arraycopy(op, 0, code, at, op.length);
        int behind = at + op.length;
        code[behind] = RET;
        if (op[0] >= IF0 && op[0] < SWITCH) {
            code[at + 1] = behind;
        }
        ByteProcessor x = right(what, around(p(0, 5), NO, 3, code));
        int[] got = new int[Math.max(0, x.type(0, behind, -1))];
        for (int i = 0; i < got.length; i++) {
            got[i] = x.type(0, behind, 100 + i);
        }
        CHECK.all(what + " gives", got, want);
        CHECK.same(what + ": no word behind the last", x.type(0, behind, 100 + got.length), -1);
        CHECK.same(what + ": LOCAL 0", x.type(0, behind, 0), 0);
        CHECK.same(what + ": LOCAL 1", x.type(0, behind, 1), 5);
        CHECK.same(what + ": LOCAL 2", x.type(0, behind, 2), op[0] == STORE ? 6 : -3);
    }

    private static void statesBehindEach() {
        gives("PUSH", c(), c(PUSH, 9), 1, 0);
        gives("PUSH w", c(), c(PUSHW, 9, 9), 1, 0);
        gives("NULL", c(), c(NULL), 1, -2);
        gives("LOAD of an int", c(), c(LOAD, 0), 1, 0);
        gives("LOAD of an object", c(), c(LOAD, 1), 1, 5);
        gives("STORE", c(NEW, 4), c(STORE, 2), 1);
        gives("POP", c(NULL, PUSH, 1), c(POP), 1, -2);
        gives("DUP", c(NEW, 4), c(DUP), 1, 6, 6);
        gives("SWAP", c(NEW, 4, NULL), c(SWAP), 1, -2, 6);
        for (int op = ADD; op <= URIGHT; op++) {
            gives("op " + op, c(PUSH, 1, PUSH, 1), c(op), 1, 0);
        }
        for (int op = NEG; op <= TO_SHORT; op++) {
            gives("op " + op, c(PUSH, 1), c(op), 1, 0);
        }
        gives("INC", c(), c(INC, 0, 1), 1);
        for (int op = IF0; op < IFSAME; op++) {
            gives("op " + op, c(PUSH, 1), c(op, 0), 1);
        }
        for (int op = IFSAME; op < IFNULL; op++) {
            gives("op " + op, c(PUSH, 1, PUSH, 1), c(op, 0), 1);
        }
        gives("JUMP if null", c(NULL), c(IFNULL, 0), 1);
        gives("JUMP if not null", c(NULL), c(IFNOTNULL, 0), 1);
        gives("JUMP if the same", c(NULL, NULL), c(IFREF, 0), 1);
        gives("JUMP if others", c(NULL, NULL), c(IFNOTREF, 0), 1);
        gives("NEW", c(), c(NEW, 3), 1, 5);
        gives("ROW", c(PUSH, 1), c(ROW), 1, 1);
        gives("SIZE", c(NULL), c(SIZE), 1, 0);
        gives("GET AT", c(NULL, PUSH, 1), c(GETAT), 1, 0);
        gives("PUT AT", c(NULL, PUSH, 1, PUSH, 1), c(PUTAT), 1);
        gives("GET an int", c(NEW, 4), c(GET, 4, 0), 1, 0);
        gives("GET an object", c(NEW, 4), c(GET, 3, 1), 1, 4);
        gives("GET a ROW", c(NEW, 4), c(GET, 4, 2), 1, 1);
        gives("PUT", c(NEW, 4, NULL), c(PUT, 4, 2), 1);
        gives("CALL", c(PUSH, 1, NULL), c(CALL, 1), 1, 1);
        gives("CALL 50", c(NEW, 4, NULL), c(CALLV, 2), 1, 5);
        gives("CALL 51", c(NEW, 4, NULL), c(CALLX, 2), 1, 5);
        gives("CALL 50 without a RESULT", c(NEW, 4), c(CALLV, 3), 1);
        gives("CALL 51 without a RESULT", c(NULL), c(CALLX, 3), 1);
        gives("CAST", c(NEW, 2), c(CAST, 4), 1, 6);
        gives("CAST to a class above", c(NEW, 4), c(CAST, 0), 1, 2);
        gives("CAST of null", c(NULL), c(CAST, 1), 1, 3);
        gives("IS", c(NEW, 2), c(IS, 4), 1, 0);
        gives("IN", c(), c(IN), 1, 0);
        gives("OUT", c(PUSH, 1), c(OUT), 1);
    }

    /** Local 1 is null at first and of class 2 when the loop comes back; the lowest place is done first. */
    private static void times() {
        ByteProcessor x = right("times", around(p(0), NO, 2, c(
            NULL, STORE, 1,     // 0, 1
            LOAD, 0,            // 3
            IF0, 11,            // 5
            NEW, 4,             // 7
            JUMP, 13,           // 9
            NEW, 5,             // 11
            STORE, 1,           // 13
            JUMP, 3)));         // 15
        CHECK.same("places", x.method(0, 8), 9);
        // 0 1 3 5 7 9 11 13 15, the classes being joined ahead of 13; then 3 5 7 9 11 13, whose local 1 became another one;
        // 15 is not done again, since what STORE brings is the same.
        CHECK.same("times done", x.method(0, 9), 9 + 6);
        CHECK.same("local at 3", x.type(0, 3, 1), 4);
        CHECK.same("pile at 13", x.type(0, 13, 100), 4);
        CHECK.same("local at 13", x.type(0, 13, 1), 4);
    }

    private static void handlers() {
        // The handler is come to with the locals ahead of the instruction that can throw, and its class alone.
        Images i = around(p(), NO, 2, c(
            PUSH, 1, STORE, 0,  // 0, 2
            PUSH, 1, PUSH, 0,   // 4, 6
            DIV,                // 8
            STORE, 1,           // 9
            PUSH, 2, POP,       // 11, 13
            RET,                // 14
            POP, RET),          // 15
            new int[] {8, 9, 15, 3});
        ByteProcessor x = right("handler", i);
        CHECK.same("its pile", x.type(0, 15, -1), 1);
        CHECK.same("its class", x.type(0, 15, 100), 5);
        CHECK.same("local 0", x.type(0, 15, 0), 0);
        CHECK.same("local 1", x.type(0, 15, 1), -3);
        int[] can = {11, 12, 43, 44, 45, 46, 47, 48, 49, 50, 51, 54, 55, 57};
        for (int op = 0; op <= 58; op++) {
            checkThrows(op, java.util.Arrays.binarySearch(can, op) >= 0);
        }
        Images three = around(p(), NO, 1, c(IN, POP, RET, POP, RET, POP, RET),
            new int[] {0, 1, 3, 3}, new int[] {0, 2, 3, 5}, new int[] {1, 3, 5, 1});
        x = right("three", three);
        CHECK.same("both come to 3", x.type(0, 3, 100), 2 + 2);
        CHECK.same("POP can't throw", x.type(0, 5, -1), -1);
        wrong("a HANDLER's pile is of another size", 8, 4,
            around(p(), NO, 0, c(PUSH, 0, IFGT0, 5, IN, RET), new int[] {0, 6, 5, 0}));
        wrong("a HANDLER's class and an int", 8, 0,
            around(p(), NO, 0, c(IN, POP, RET), new int[] {0, 1, 1, 0}, new int[] {0, 1, 1, 1}));
    }

    /** A HANDLER over one instruction, which all it takes is made for: whether its TARGET is come to. */
    private static void checkThrows(int op, boolean can) {
        int[] tail = {op, 0, 0, 0, 0, 0};
        int[] front;
        switch (op) {
            case 0: case 1: case 2: case 3: case 23: case 24: case 42: case 49: case 52: case 57: front = c(); break;
            case 37: case 38: case 44: case 47: case 54: case 55: case 56: front = c(NULL); break;
            case 39: case 40: front = c(NULL, NULL); break;
            case 45: front = c(NULL, PUSH, 0); break;
            case 46: front = c(NULL, PUSH, 0, PUSH, 0); break;
            case 48: front = c(NULL, PUSH, 0); break;
            case 50: case 51: front = c(NULL); break;
            default: front = c(PUSH, 0, PUSH, 0); break;
        }
        int[] lengths = {2, 3, 1, 2, 2, 1, 1, 1, 1, 1, 1, 1, 1, 1, 1, 1, 1, 1, 1, 1, 1, 1, 1, 3, 2, 2, 2, 2, 2, 2, 2, 2, 2, 2, 2,
            2, 2, 2, 2, 2, 2, 6, 2, 1, 1, 1, 1, 3, 3, 2, 2, 2, 1, 1, 1, 2, 2, 1, 1};
        int length = lengths[op];
        int at = front.length;
        int end = at + length;
        int[] code = java.util.Arrays.copyOf(front, end + 3);
        System.arraycopy(tail, 0, code, at, length);
        code[end] = RET;
        code[end + 1] = POP;
        code[end + 2] = RET;
        if (op >= 24 && op <= 40) {
            code[at + 1] = end;
        } else if (op == SWITCH) {
            code[at + 2] = 2;
            code[at + 3] = code[at + 4] = code[at + 5] = end;
        } else if (op == GET || op == PUT) {
            code[at + 1] = 1;
        } else if (op == CALL) {
            code[at + 1] = 1;
        } else if (op == CALLV || op == CALLX) {
            code[at + 1] = 2;
        }
        int result = op == RETV ? 0 : NO;
        if (op == RETV) {
            code[end] = NULL;
            code[end + 1] = POP;
            code = java.util.Arrays.copyOf(code, end + 5);
            code[end + 2] = PUSH;
            code[end + 4] = RETV;
        }
        Images i = Images.plain().main(0, p(0), result, 1, code, new int[] {at, at + 1, end + 1, 0})
            .main(1, p(), NO, 0, c(RET)).method(1, 0, 0, p(), NO, 1, c(RET));
        ByteProcessor x = new ByteProcessor(2, 8, 16, 0);
        CHECK.same("HANDLER of " + op + ": load", i.loadInto(x), 0);
        CHECK.same("HANDLER of " + op, x.type(0, end + 1, -1), can ? 1 : -1);
    }

    private static void laterMethod() {
        Images i = Images.plain().main(0, p(), NO, 0, c(RET)).main(1, p(), NO, 0, c(NULL, POP, POP, RET))
            .main(2, p(), NO, 0, c(200));
        ByteProcessor x = new ByteProcessor(2, 8, 16, 0);
        CHECK.same("load", i.loadInto(x), 2);
        CHECK.same("the first METHOD that is WRONG", x.fault(2), 1);
        CHECK.same("why", x.fault(3), 4);
        CHECK.same("where", x.fault(4), 2);
    }

    public static void main(String[] args) {
        instructions();
        switches();
        targets();
        tooFew();
        noFit();
        noFitObjects();
        fitsEach();
        tooMany();
        fallsOff();
        joins();
        localJoins();
        states();
        statesBehindEach();
        times();
        handlers();
        laterMethod();
        CHECK.end();
    }
}
