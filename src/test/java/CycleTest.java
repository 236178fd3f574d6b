/** Promises 13, 14 and 19: cycles, the RAM of the pile and the cache of methods. */
public final class CycleTest extends Ops {
    private static final Check CHECK = new Check("CycleTest");

    private CycleTest() {
    }

    /** Classes 2, 3 below 2, 4 below 3; the TRAPS have three words. Method 1 is static, 2 of class 2, 3 of class 3. */
    private static Images around(int[] code, int[]... handlers) {
        return new Images().klass(NO).klass(0, 0, 0, 1).klass(0, 0, 4).klass(2, 0).klass(3)
            .main(0, NO_PARAMS, NO, 2, code, handlers)
            .main(1, NO_PARAMS, NO, 0, c(RET))
            .method(2, 0, 0, NO_PARAMS, 0, 1, c(PUSH, 0, RETV))
            .method(3, 0, 0, NO_PARAMS, 0, 1, c(PUSH, 0, RETV));
    }

    /** The cycles of the instruction behind the first n ones. */
    private static void cost(String what, int n, long want, int... code) {
        ByteProcessor x = around(code).loaded();
        x.begin(0, 0, 0);
        if (n > 0) {
            x.go(n);
        }
        long before = x.cycles();
        CHECK.same(what + ": go", x.go(1), 1);
        CHECK.same(what, x.cycles() - before, want);
    }

    private static void instructions() {
        cost("PUSH", 0, 1, PUSH, 1, RET);
        cost("PUSH w", 0, 1, PUSHW, 1, 1, RET);
        cost("NULL", 0, 1, NULL, RET);
        cost("STORE", 1, 1, NULL, STORE, 1, RET);
        cost("LOAD", 2, 1, NULL, STORE, 1, LOAD, 1, RET);
        cost("POP", 1, 1, NULL, POP, RET);
        cost("DUP", 1, 1, NULL, DUP, RET);
        cost("SWAP", 2, 1, NULL, NULL, SWAP, RET);
        int[] two = {1, 1, 4, 8, 8, 1, 1, 1, 1, 1, 1};
        for (int op = ADD; op <= URIGHT; op++) {
            cost("op " + op, 2, two[op - ADD], PUSH, 9, PUSH, 3, op, RET);
        }
        for (int op = NEG; op <= TO_SHORT; op++) {
            cost("op " + op, 1, 1, PUSH, 9, op, RET);
        }
        cost("INC", 2, 1, PUSH, 9, STORE, 0, INC, 0, 1, RET);
        cost("JUMP", 0, 3, JUMP, 2, RET);
        cost("JUMP if, done", 1, 3, PUSH, 0, IF0, 4, RET);
        cost("JUMP if, not done", 1, 1, PUSH, 1, IF0, 4, RET);
        cost("JUMP if the same, done", 2, 3, PUSH, 0, PUSH, 0, IFSAME, 6, RET);
        cost("JUMP if null, done", 1, 3, NULL, IFNULL, 3, RET);
        cost("JUMP if not null, not done", 1, 1, NULL, IFNOTNULL, 3, RET);
        cost("JUMP if the same reference, done", 2, 3, NULL, NULL, IFREF, 4, RET);
        cost("SWITCH", 1, 5, PUSH, 0, SWITCH, 0, 1, 7, 7, RET);
        cost("SWITCH else", 1, 5, PUSH, 9, SWITCH, 0, 1, 7, 7, RET);
        cost("NEW 0", 0, 3, NEW, 0, RET);
        cost("NEW 4", 0, 6, NEW, 4, RET);
        cost("ROW 0", 1, 3, PUSH, 0, ROW, RET);
        cost("ROW 100", 1, 103, PUSH, 100, ROW, RET);
        cost("SIZE", 2, 3, PUSH, 100, ROW, SIZE, RET);
        cost("GET AT", 3, 4, PUSH, 100, ROW, PUSH, 0, GETAT, RET);
        cost("PUT AT", 4, 4, PUSH, 100, ROW, PUSH, 0, PUSH, 0, PUTAT, RET);
        cost("GET", 1, 3, NEW, 2, GET, 2, 0, RET);
        cost("PUT", 2, 3, NEW, 2, PUSH, 1, PUT, 2, 0, RET);
        cost("CALL and its miss", 0, 5 + 7, CALL, 1, RET);
        cost("RETURN and its hit", 1, 4 + 1, CALL, 1, RET);
        cost("RETURN of the first", 0, 4, RET);
        cost("CALL, there already", 2, 5 + 1, CALL, 1, CALL, 1, RET);
        cost("THROW", 1, 1 + 3, NEW, 2, THROW);
        cost("CAST to its own", 1, 1, NEW, 4, CAST, 4, RET);
        cost("CAST one up", 1, 2, NEW, 4, CAST, 3, RET);
        cost("CAST to class 0", 1, 4, NEW, 4, CAST, 0, RET);
        cost("CAST null", 1, 1, NULL, CAST, 3, RET);
        cost("IS its own", 1, 1, NEW, 4, IS, 4, RET);
        cost("IS aside", 1, 4, NEW, 4, IS, 1, RET);
        cost("IS below", 1, 2, NEW, 2, IS, 4, RET);
        cost("IS null", 1, 1, NULL, IS, 1, RET);
        cost("OUT", 1, 1, PUSH, 1, OUT, RET);
        ByteProcessor x = around(c(IN, RET)).loaded();
        x.input(4);
        x.begin(0, 0, 0);
        long before = x.cycles();
        x.go(1);
        CHECK.same("IN", x.cycles() - before, 1);
    }

    /** Each JUMP has 1, and 2 more if it is done; each CALL 4 more. */
    private static void jumpsAndCalls() {
        int[] small = {0, 1, 255};
        for (int op = 25; op <= 30; op++) {
            for (int v : small) {
                cost("JUMP " + op + " of " + v, 1, isDone(op - 25, (byte) v) ? 3 : 1, PUSH, v, op, 4, RET);
            }
        }
        for (int op = 31; op <= 36; op++) {
            for (int v : small) {
                cost("JUMP " + op + " of " + v, 2, isDone(op - 31, (byte) v) ? 3 : 1, PUSH, v, PUSH, 0, op, 6, RET);
            }
        }
        cost("JUMP 37 of an object", 1, 1, NEW, 0, IFNULL, 4, RET);
        cost("JUMP 38 of an object", 1, 3, NEW, 0, IFNOTNULL, 4, RET);
        cost("JUMP 39 of two", 2, 1, NEW, 0, NULL, IFREF, 5, RET);
        cost("JUMP 40 of two", 2, 3, NEW, 0, NULL, IFNOTREF, 5, RET);
        cost("JUMP 40 of the same", 2, 1, NULL, NULL, IFNOTREF, 4, RET);
        cost("CALL 50", 1, 1 + 4 + 7, NEW, 2, CALLV, 2, POP, RET);
        cost("CALL 51", 1, 1 + 4 + 7, NEW, 3, CALLX, 2, POP, RET);
        cost("RETURN a value", 3, 1 + 3 + 1, NEW, 2, CALLX, 2, POP, RET);
    }

    private static boolean isDone(int relation, int v) {
        boolean[] all = {v == 0, v != 0, v < 0, v >= 0, v > 0, v <= 0};
        return all[relation];
    }

    /** A trap has 5, 2 and three words more, and the first frame that goes 3. */
    private static void traps() {
        int trap = 5 + 2 + 3 + 3;
        cost("/", 2, 8 + trap, PUSH, 1, PUSH, 0, DIV, RET);
        cost("SIZE", 1, 3 + trap, NULL, SIZE, RET);
        cost("GET AT", 2, 4 + trap, NULL, PUSH, 0, GETAT, RET);
        cost("GET", 1, 3 + trap, NULL, GET, 2, 0, RET);
        cost("ROW", 1, 3 + trap, PUSH, 255, ROW, RET);
        cost("CALL 50", 1, 5 + trap, NULL, CALLV, 2, RET);
        cost("CAST aside", 1, 1 + 3 + trap, NEW, 4, CAST, 1, RET);
        cost("IN", 0, 1 + trap, IN, RET);
        cost("THROW null", 1, 1 + trap, NULL, THROW);
        ByteProcessor x = around(c(NULL, THROW, POP, RET), new int[] {1, 2, 2, 0}).loaded();
        x.begin(0, 0, 0);
        x.go(1);
        long before = x.cycles();
        x.go(1);
        CHECK.same("a HANDLER and its hit", x.cycles() - before, 1 + 10 + 2 + 1);
        x = Images.plain().main(0, p(0), NO, 1, c(CALL, 1, RET, POP, RET), new int[] {0, 2, 3, 0})
            .main(1, NO_PARAMS, NO, 0, c(CALL, 2, RET)).main(2, NO_PARAMS, NO, 0, c(NEW, 1, THROW)).loaded();
        x.begin(0, 0, 0);
        x.go(3);
        before = x.cycles();
        x.go(1);
        CHECK.same("two frames that go", x.cycles() - before, 1 + 3 + 3 + 2 + 1);
    }

    private static void ends() {
        ByteProcessor x = Images.plain().main(0, p(0), NO, 1, c(LOAD, 0, ROW, POP, RET)).loaded(2, 8, 16, 0);
        x.begin(0, 1000000000, 0);
        x.go(1);
        long before = x.cycles();
        x.go(1);
        CHECK.same("ROOM", x.look(0), 4);
        CHECK.same("a collection's one step", x.look(13), 1);
        CHECK.same("its cycles", x.cycles() - before, 3 + 1000000000L + 1);
        for (int i = 0; i < 3; i++) {
            x.begin(0, Integer.MAX_VALUE, 0);
            x.go(1);
            before = x.cycles();
            x.go(1);
            CHECK.same("its cycles", x.cycles() - before, 3 + 2147483647L + 1);
        }
        x = Images.plain().main(0, p(0), NO, 20, c(CALL, 1, RET)).main(1, NO_PARAMS, NO, 20, c(CALL, 1, RET)).loaded();
        x.begin(0, 0, 0);
        x.go(15);
        before = x.cycles();
        x.go(1);
        CHECK.same("STACK", x.look(0), 5);
        CHECK.same("its cycles", x.cycles() - before, 5);
    }

    /** A RAM of eight words: each word that is told is what a push spills or a taking fills. */
    private static void ram() {
        ByteProcessor x = Images.plain().main(0, p(0, 0), NO, 6, c(
            PUSH, 1, STORE, 5,      // spill to 10, 2
            LOAD, 0,                // 4: below
            STORE, 1,               // 6: below
            INC, 1, 1,              // 8: below
            LOAD, 5,                // 11: not below
            POP,                    // 13
            PUSH, 1, PUSH, 2,       // 14 16
            PUSH, 3, PUSH, 4,       // 18 20
            ADD, ADD, ADD, POP,     // 22 23 24 25
            JUMP, 0)).loaded(16, 8, 16, 0);
        x.begin(0, 7, 8);
        CHECK.same("words", x.look(6), 9);
        CHECK.same("LOW", x.look(7), 1);
        CHECK.same("SPILLS", x.look(8), 1);
        CHECK.same("cycles", x.cycles(), 1 + 3 + 8);
        long c = x.cycles();
        c = expect(x, "PUSH spills", c, 2, 2, 2, 0);
        c = expect(x, "STORE 5", c, 1, 2, 2, 0);
        c = expect(x, "LOAD 0 below, spills none", c, 3, 2, 2, 0);
        c = expect(x, "STORE 1 below", c, 3, 2, 2, 0);
        c = expect(x, "INC 1 below", c, 3, 2, 2, 0);
        c = expect(x, "LOAD 5", c, 1, 2, 2, 0);
        c = expect(x, "POP", c, 1, 2, 2, 0);
        c = expect(x, "PUSH 1", c, 1, 2, 2, 0);
        c = expect(x, "PUSH 2", c, 2, 3, 3, 0);
        c = expect(x, "PUSH 3", c, 2, 4, 4, 0);
        c = expect(x, "PUSH 4", c, 2, 5, 5, 0);
        c = expect(x, "+", c, 1, 5, 5, 0);
        c = expect(x, "+", c, 1, 5, 5, 0);
        c = expect(x, "+", c, 1, 5, 5, 0);
        c = expect(x, "POP", c, 1, 5, 5, 0);
        CHECK.same("words at last", x.look(6), 9);
    }

    private static long expect(ByteProcessor x, String what, long before, int cycles, int low, int spills, int fills) {
        x.go(1);
        CHECK.same(what + ": cycles", x.cycles() - before, cycles);
        CHECK.same(what + ": LOW", x.look(7), low);
        CHECK.same(what + ": SPILLS", x.look(8), spills);
        CHECK.same(what + ": FILLS", x.look(9), fills);
        return x.cycles();
    }

    /** A deep call spills what its caller pushed; each word that is taken later is a FILL. */
    private static void fills() {
        ByteProcessor x = Images.plain().main(0, NO_PARAMS, 0, 0, c(
            PUSH, 1, PUSH, 2, PUSH, 3,      // 3 .. 5
            CALL, 1,                        // 6 .. 18
            DUP,                            // takes 5: FILL, pushes two
            SWAP, ADD, ADD, ADD, RETV))
            .main(1, NO_PARAMS, NO, 10, c(RET)).loaded(16, 8, 16, 0);
        x.begin(0, 0, 0);
        x.go(3);
        CHECK.same("nothing spilt", x.look(8), 0);
        long c = x.cycles();
        c = expect(x, "CALL", c, 5 + 7 + 11, 11, 11, 0);
        c = expect(x, "RETURN: 3 words at 16 .. 18 are in RAM, the PILE ends at 6", c, 4 + 1 + 1, 6, 11, 1);
        c = expect(x, "DUP", c, 2, 5, 11, 2);
        c = expect(x, "SWAP", c, 1, 5, 11, 2);
        c = expect(x, "ADD", c, 1, 5, 11, 2);
        c = expect(x, "ADD", c, 2, 4, 11, 3);
        c = expect(x, "ADD", c, 2, 3, 11, 4);
        c = expect(x, "RETURN of the first", c, 4, 3, 11, 4);
        CHECK.same("returned", x.look(1), 9);
    }

    /** SWAP and an int jump take two, each a FILL; the value of RETURN is one; a first RETURN ends nothing. */
    private static void fillsOfEach() {
        ByteProcessor x = Images.plain().main(0, NO_PARAMS, 0, 0, c(
            PUSH, 1, PUSH, 2, CALL, 1, SWAP, CALL, 1, IFSAME, 11, PUSH, 5, CALL, 1, RETV))
            .main(1, NO_PARAMS, NO, 10, c(RET)).loaded(16, 8, 16, 0);
        x.begin(0, 0, 0);
        x.go(4);
        CHECK.same("LOW", x.look(7), 5);
        int fills = x.look(9);
        x.go(1);
        CHECK.same("SWAP", x.look(9) - fills, 2);
        CHECK.same("LOW behind it", x.look(7), 3);
        x.go(2);
        fills = x.look(9);
        x.go(1);
        CHECK.same("JUMP", x.look(9) - fills, 2);
        x.go(3);
        fills = x.look(9);
        x.go(1);
        CHECK.same("RETURN", x.look(9) - fills, 1);
        CHECK.same("LOW at the end", x.look(7), 3);
    }

    /** All that lies below LOW behind a deep call: an instruction has a FILL for each word that it takes. */
    private static void filled(int taken, int[] front, int... tail) {
        int[] code = java.util.Arrays.copyOf(front, front.length + 2 + tail.length + 1);
        code[front.length] = CALL;
        code[front.length + 1] = 1;
        System.arraycopy(tail, 0, code, front.length + 2, tail.length);
        code[code.length - 1] = RET;
        for (int i = 1; i < tail.length; i++) {
            if (tail[i] == 222) {
                code[front.length + 2 + i] = code.length - 1;
            }
        }
        ByteProcessor x = new Images().klass(NO).klass(0, 0).main(0, NO_PARAMS, NO, 1, code)
            .main(1, NO_PARAMS, NO, 10, c(RET)).main(2, p(0), 0, 1, c(PUSH, 0, RETV)).loaded(16, 8, 32, 0);
        x.begin(0, 0, 0);
        int before = 0;
        for (int i = 0; i < 20 && x.look(4) != front.length + 2; i++) {
            x.go(1);
            before = x.look(6);
        }
        CHECK.same("op " + tail[0] + ": all lies below LOW", x.look(7), before);
        int fills = x.look(9);
        x.go(1);
        CHECK.same("op " + tail[0] + ": FILLS", x.look(9) - fills, taken);
        CHECK.same("op " + tail[0] + ": LOW", x.look(7), before - taken);
    }

    private static void filledByAll() {
        filled(1, c(NULL), STORE, 0);
        filled(1, c(NULL), POP);
        filled(1, c(NULL), DUP);
        filled(2, c(NULL, NULL), SWAP);
        for (int op = ADD; op <= URIGHT; op++) {
            filled(2, c(PUSH, 1, PUSH, 2), op);
        }
        for (int op = NEG; op <= TO_SHORT; op++) {
            filled(1, c(PUSH, 1), op);
        }
        for (int op = 25; op <= 30; op++) {
            filled(1, c(PUSH, 1), op, 222);
        }
        for (int op = 31; op <= 36; op++) {
            filled(2, c(PUSH, 1, PUSH, 1), op, 222);
        }
        filled(1, c(NULL), IFNULL, 222);
        filled(1, c(NULL), IFNOTNULL, 222);
        filled(2, c(NULL, NULL), IFREF, 222);
        filled(2, c(NULL, NULL), IFNOTREF, 222);
        filled(1, c(PUSH, 1), SWITCH, 0, 1, 222, 222);
        filled(1, c(PUSH, 1), ROW);
        filled(1, c(PUSH, 1, ROW), SIZE);
        filled(2, c(PUSH, 1, ROW, PUSH, 0), GETAT);
        filled(3, c(PUSH, 1, ROW, PUSH, 0, PUSH, 0), PUTAT);
        filled(1, c(NEW, 1), GET, 1, 0);
        filled(2, c(NEW, 1, PUSH, 0), PUT, 1, 0);
        filled(0, c(PUSH, 0), CALL, 2);
        filled(1, c(NEW, 1), CAST, 0);
        filled(1, c(NULL), CAST, 0);
        filled(1, c(NEW, 1), IS, 1);
        filled(1, c(PUSH, 0), OUT);
        ByteProcessor x = Images.plain().main(0, NO_PARAMS, NO, 0, c(NEW, 0, CALL, 1, THROW, POP, RET), new int[] {4, 5, 5, 0})
            .main(1, NO_PARAMS, NO, 10, c(RET)).loaded(16, 8, 32, 0);
        x.begin(0, 0, 0);
        x.go(3);
        int fills = x.look(9);
        x.go(1);
        CHECK.same("THROW takes one, and nothing more is below", x.look(9) - fills, 1);
    }

    /** Of ROW its size is taken ahead of what is wanted, also if the run ends. */
    private static void rowTakesAhead() {
        ByteProcessor x = Images.plain().main(0, NO_PARAMS, NO, 0, c(PUSH, 100, CALL, 1, ROW, RET))
            .main(1, NO_PARAMS, NO, 10, c(RET)).loaded(16, 8, 32, 0);
        x.begin(0, 0, 0);
        x.go(3);
        int fills = x.look(9);
        x.go(1);
        CHECK.same("ROOM", x.look(0), 4);
        CHECK.same("its FILL", x.look(9) - fills, 1);
        CHECK.same("LOW", x.look(7), 3);
    }

    /** A frame whose three words are below LOW: RETURN reads each with 2 cycles more; the value is filled ahead of that. */
    private static void readsBelow() {
        ByteProcessor x = Images.plain().main(0, NO_PARAMS, 0, 0, c(CALL, 1, RETV))
            .main(1, NO_PARAMS, 0, 0, c(PUSH, 4, CALL, 2, RETV))
            .main(2, NO_PARAMS, NO, 10, c(RET)).loaded(16, 8, 16, 0);
        x.begin(0, 0, 0);
        x.go(4);
        CHECK.same("LOW", x.look(7), 7);
        CHECK.same("words", x.look(6), 7);
        long before = x.cycles();
        int fills = x.look(9);
        x.go(1);
        // The value: a FILL, LOW 6; words 3, 4, 5 are below 6; the PILE ends at 3: a FILL; pushed; a hit.
        CHECK.same("cycles", x.cycles() - before, 4 + 1 + 6 + 1 + 1);
        CHECK.same("FILLS", x.look(9) - fills, 2);
        CHECK.same("LOW", x.look(7), 3);
    }

    /** LOW lies among the three words: each one below it has 2 cycles more. */
    private static void readsSomeBelow() {
        int[] cycles = {5, 5 + 2 + 1, 5 + 4 + 1, 5 + 6 + 1};
        for (int i = 0; i < 4; i++) {
            ByteProcessor x = Images.plain().main(0, NO_PARAMS, NO, 0, c(CALL, 1, RET))
                .main(1, NO_PARAMS, NO, 0, c(CALL, 2, RET))
                .main(2, NO_PARAMS, NO, 2 + i, c(RET)).loaded(16, 8, 16, 0);
            x.begin(0, 0, 0);
            x.go(3);
            CHECK.same("LOW", x.look(7), 3 + i);
            CHECK.same("method", x.look(3), 1);
            long before = x.cycles();
            x.go(1);
            CHECK.same("LOW behind", x.look(7), 3);
            CHECK.same("cycles with " + i + " below", x.cycles() - before, cycles[i]);
        }
    }

    /** A trap takes nothing, so nothing is filled until the frame's words go, which is one FILL. */
    private static void trapFills() {
        ByteProcessor x = Images.plain().main(0, NO_PARAMS, 0, 0, c(
            PUSH, 1, PUSH, 2, PUSH, 0, CALL, 1, DIV, RETV, POP, PUSH, 0, RETV), new int[] {8, 9, 10, 0})
            .main(1, NO_PARAMS, NO, 10, c(RET)).loaded(16, 8, 16, 0);
        x.begin(0, 0, 0);
        x.go(5);
        CHECK.same("LOW", x.look(7), 6);
        long before = x.cycles();
        int fills = x.look(9);
        x.go(1);
        CHECK.same("one FILL", x.look(9) - fills, 1);
        CHECK.same("LOW", x.look(7), 3);
        CHECK.same("cycles", x.cycles() - before, 8 + 5 + 2 + 1 + 2 + 1 + 1);
        ByteProcessor y = Images.plain().main(0, NO_PARAMS, 0, 0, c(PUSH, 1, PUSH, 0, CALL, 1, DIV, RETV))
            .main(1, NO_PARAMS, NO, 10, c(RET)).loaded(16, 8, 16, 0);
        y.begin(0, 0, 0);
        y.go(4);
        fills = y.look(9);
        y.go(1);
        CHECK.same("THROWN: one FILL", y.look(9) - fills, 1);
        CHECK.same("THROWN: LOW", y.look(7), 0);
    }

    private static int[] body(int length, int... front) {
        int[] code = java.util.Arrays.copyOf(front, length);
        java.util.Arrays.fill(code, front.length, length, RET);
        return code;
    }

    private static void blocks(ByteProcessor x, String what, int... want) {
        int[] got = new int[want.length];
        for (int i = 0; i < want.length; i++) {
            got[i] = x.cached(i);
        }
        CHECK.all(what, got, want);
        CHECK.same(what + ", no more", x.cached(want.length), -1);
        CHECK.same(what + ", block -1", x.cached(-1), -1);
    }

    private static void cache() {
        Images i = Images.plain()
            .main(0, NO_PARAMS, NO, 0, body(17, CALL, 1, CALL, 2, CALL, 1, CALL, 3, RET))
            .main(1, NO_PARAMS, NO, 0, body(16, RET))
            .main(2, NO_PARAMS, NO, 0, body(32, RET))
            .main(3, NO_PARAMS, NO, 0, body(81, RET));
        ByteProcessor x = i.loaded(5, 64, 16, 0);
        blocks(x, "none", -1, -1, -1, -1, -1);
        x.begin(0, 0, 0);
        blocks(x, "begin", 0, 0, -1, -1, -1);
        CHECK.same("NEXT", x.look(12), 2);
        CHECK.same("cycles", x.cycles(), 3 + 8);
        x.go(1);
        blocks(x, "CALL 1", 0, 0, 1, -1, -1);
        CHECK.same("NEXT", x.look(12), 3);
        x.go(1);
        CHECK.same("HITS", x.look(10), 1);
        x.go(1);
        blocks(x, "CALL 2", 0, 0, 1, 2, 2);
        CHECK.same("NEXT", x.look(12), 0);
        x.go(1);
        x.go(1);
        CHECK.same("HITS", x.look(10), 3);
        CHECK.same("MISSES", x.look(11), 3);
        x.go(1);
        long before = x.cycles();
        x.go(1);
        blocks(x, "CALL 3, which has 6 blocks", -1, -1, -1, -1, -1);
        CHECK.same("NEXT", x.look(12), 0);
        CHECK.same("its cycles", x.cycles() - before, 5 + 3 + 24);
        CHECK.same("MISSES", x.look(11), 4);
        x.go(1);
        blocks(x, "behind it", 0, 0, -1, -1, -1);
        CHECK.same("MISSES", x.look(11), 5);
        CHECK.same("HITS", x.look(10), 4);
        x.go(1);
        CHECK.same("returned", x.look(0), 2);
        blocks(x, "at the end", 0, 0, -1, -1, -1);
        CHECK.same("no look at the end", x.look(10) + x.look(11), 9);
    }

    /** Blocks go round, and a method that loses one loses all. */
    private static void goesRound() {
        ByteProcessor x = Images.plain()
            .main(0, NO_PARAMS, NO, 0, body(33, CALL, 1, CALL, 2, RET))
            .main(1, NO_PARAMS, NO, 0, body(17, RET))
            .main(2, NO_PARAMS, NO, 0, body(1, RET)).loaded(4, 64, 16, 0);
        x.begin(0, 0, 0);
        blocks(x, "begin", 0, 0, 0, -1);
        CHECK.same("NEXT", x.look(12), 3);
        x.go(1);
        blocks(x, "CALL 1", 1, -1, -1, 1);
        CHECK.same("NEXT", x.look(12), 1);
        x.go(1);
        blocks(x, "RETURN", -1, 0, 0, 0);
        CHECK.same("NEXT", x.look(12), 0);
        x.go(1);
        blocks(x, "CALL 2", 2, 0, 0, 0);
        x.go(1);
        CHECK.same("HITS", x.look(10), 1);
        CHECK.same("MISSES", x.look(11), 4);
    }

    /** The last block is one as the others: it is found, and it is lost with the others of its METHOD. */
    private static void lastBlock() {
        ByteProcessor x = Images.plain()
            .main(0, NO_PARAMS, NO, 0, body(16, CALL, 1, CALL, 1, RET))
            .main(1, NO_PARAMS, NO, 0, c(RET)).loaded(2, 64, 16, 0);
        x.begin(0, 0, 0);
        x.go(1);
        blocks(x, "METHOD 1 in the last block", 0, 1);
        x.go(2);
        CHECK.same("HITS of RETURN and CALL", x.look(10), 2);
        CHECK.same("MISSES", x.look(11), 2);
        x = Images.plain()
            .main(0, NO_PARAMS, NO, 0, body(16, CALL, 1, RET))
            .main(1, NO_PARAMS, NO, 0, body(17, CALL, 2, RET))
            .main(2, NO_PARAMS, NO, 0, body(17, RET)).loaded(3, 64, 16, 0);
        x.begin(0, 0, 0);
        x.go(1);
        blocks(x, "CALL 1", 0, 1, 1);
        x.go(1);
        blocks(x, "CALL 2, METHOD 1 is gone", 2, 2, -1);
        CHECK.same("NEXT", x.look(12), 2);
        x.go(1);
        blocks(x, "RETURN, METHOD 2 is gone", 1, -1, 1);
        CHECK.same("MISSES", x.look(11), 4);
        CHECK.same("NEXT", x.look(12), 1);
    }

    /** A CALL of a METHOD that is never there leaves none: behind RETURN and HANDLER the METHOD's own blocks come again. */
    private static void missesBehind() {
        for (int length = 8; length <= 64; length++) {
            int blocks = (length + 15) / 16;
            ByteProcessor x = Images.plain()
                .main(0, p(0), NO, 1, body(length, CALL, 1, RET))
                .main(1, NO_PARAMS, NO, 0, body(65, RET))
                .main(2, NO_PARAMS, NO, 0, body(length, CALL, 3, RET, POP, RET), new int[] {0, 2, 3, 0})
                .main(3, NO_PARAMS, NO, 0, body(65, NEW, 0, THROW)).loaded(4, 64, 16, 0);
            x.begin(0, 0, 0);
            x.go(1);
            CHECK.same("none is there", x.cached(0), -1);
            long before = x.cycles();
            x.go(1);
            CHECK.same("RETURN to " + length + " bytes", x.cycles() - before, 4 + 3 + 4 * blocks);
            ownBlocks(x, 0, blocks);
            x.begin(2, 0, 0);
            x.go(2);
            before = x.cycles();
            x.go(1);
            CHECK.same("the HANDLER's TARGET", x.look(4), 3);
            CHECK.same("HANDLER in " + length + " bytes", x.cycles() - before, 1 + 3 + 2 + 3 + 4 * blocks);
            ownBlocks(x, 2, blocks);
        }
    }

    private static void ownBlocks(ByteProcessor x, int m, int blocks) {
        for (int i = 0; i < 4; i++) {
            CHECK.same("block " + i + " of METHOD " + m, x.cached(i), i < blocks ? m : -1);
        }
        CHECK.same("NEXT behind METHOD " + m, x.look(12), blocks % 4);
        CHECK.same("MISSES", x.look(11), 3);
    }

    public static void main(String[] args) {
        instructions();
        jumpsAndCalls();
        traps();
        ends();
        ram();
        fills();
        fillsOfEach();
        filledByAll();
        rowTakesAhead();
        readsBelow();
        readsSomeBelow();
        trapFills();
        cache();
        goesRound();
        lastBlock();
        missesBehind();
        CHECK.end();
    }
}
