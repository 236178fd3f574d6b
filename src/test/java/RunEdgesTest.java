import java.util.Arrays;
import java.util.NoSuchElementException;

/** The edges that the document names of running, cycles and the heap: a test for each sentence (promises 10 to 20). */
public final class RunEdgesTest extends Ops {
    private static final Check CHECK = new Check("RunEdgesTest");
    private static final int MIN = Integer.MIN_VALUE;
    private static final int MAX = Integer.MAX_VALUE;
    private static final int GREY = 1;
    private static final int BLACK = 2;

    private RunEdgesTest() {
    }

    private static ByteProcessor run(ByteProcessor x, int m, int a, int b) {
        CHECK.yes("begin " + m, x.begin(m, a, b));
        x.go(100000);
        return x;
    }

    /** "INC n b: LOCAL n, an int, grows by b", b with its sign, of 32 bits. */
    private static void inc() {
        int[][] cases = {{MAX, 1, MIN}, {MAX, 127, MIN + 126}, {MIN, 255, MAX}, {MIN, 128, MAX - 127}, {0, 128, -128},
            {0, 127, 127}, {5, 0, 5}};
        for (int[] one : cases) {
            ByteProcessor x = Images.plain().main(0, p(0), 0, 1, c(INC, 0, one[1], LOAD, 0, RETV)).loaded();
            CHECK.same("INC of " + one[0] + " by " + one[1], run(x, 0, one[0], 0).look(1), one[2]);
        }
    }

    /** "To a byte, to 16 bits without sign, to 16 bits with their sign": just inside, just outside. */
    private static void narrowed() {
        int[] from = {127, 128, -128, -129, 255, 256, 32767, 32768, -32768, -32769, 65535, 65536, MIN, MAX};
        for (int v : from) {
            CHECK.same("20 of " + v, narrow(TO_BYTE, v), (byte) v);
            CHECK.same("21 of " + v, narrow(TO_CHAR, v), (char) v);
            CHECK.same("22 of " + v, narrow(TO_SHORT, v), (short) v);
        }
    }

    private static int narrow(int op, int v) {
        return run(Images.plain().main(0, p(0), 0, 1, c(LOAD, 0, op, RETV)).loaded(), 0, v, 0).look(1);
    }

    /** "Shifts by the lowest five bits". */
    private static void shifts() {
        int[] by = {0, 1, 31, 32, 33, 63, 64, -1, -32, MIN, MAX};
        int v = 0x80000005;
        for (int n : by) {
            CHECK.same("LEFT by " + n, shift(LEFT, v, n), v << (n & 31));
            CHECK.same("RIGHT by " + n, shift(RIGHT, v, n), v >> (n & 31));
            CHECK.same("RIGHT without sign by " + n, shift(URIGHT, v, n), v >>> (n & 31));
        }
    }

    private static int shift(int op, int v, int n) {
        return run(Images.plain().main(0, p(0, 0), 0, 2, c(LOAD, 0, LOAD, 1, op, RETV)).loaded(), 0, v, n).look(1);
    }

    /** "SWITCH b, k (1 to 8)": the first and the last t, one below and one above, and i - b that goes round. */
    private static void switches() {
        int[] bases = {0, 1, 127, 128, 255};
        for (int b : bases) {
            for (int k = 1; k <= 8; k += 7) {
                ByteProcessor x = switching(b, k);
                int first = (byte) b;
                CHECK.same("i = b", run(x, 0, first, 0).look(1), 1);
                CHECK.same("the last of " + k, run(x, 0, first + k - 1, 0).look(1), k);
                int[] others = {first - 1, first + k, MIN, MIN + 126, MIN + 127, MAX, MAX - 127, MAX - 128};
                for (int i : others) {
                    CHECK.same("b " + first + ", k " + k + ", i " + i, run(x, 0, i, 0).look(1), 0);
                }
            }
        }
    }

    /** Returns 0 for the first t, 1 .. k for those behind. */
    private static ByteProcessor switching(int b, int k) {
        int head = 2 + 4 + k;
        int[] code = new int[head + 3 * (k + 1)];
        System.arraycopy(c(LOAD, 0, SWITCH, b, k), 0, code, 0, 5);
        for (int t = 0; t <= k; t++) {
            code[5 + t] = head + 3 * t;
            System.arraycopy(c(PUSH, t, RETV), 0, code, head + 3 * t, 3);
        }
        return Images.plain().main(0, p(0), 0, 1, code).loaded();
    }

    /** "A place outside of a ROW": the first and the last place are inside. */
    private static void places() {
        int[] sizes = {0, 1, 5};
        for (int size : sizes) {
            int[] at = {MIN, -1, 0, size - 1, size, size + 1, MAX};
            ByteProcessor x = Images.plain()
                .main(0, p(0, 0), 0, 2, c(LOAD, 0, ROW, LOAD, 1, GETAT, RETV))
                .main(1, p(0, 0), NO, 2, c(LOAD, 0, ROW, LOAD, 1, PUSH, 7, PUTAT, RET)).loaded();
            for (int i : at) {
                boolean inside = i >= 0 && i < size;
                for (int m = 0; m < 2; m++) {
                    run(x, m, size, i);
                    CHECK.same("size " + size + ", place " + i, x.look(0), inside ? 2 : 3);
                    CHECK.same("its TRAP", inside ? 2 : x.word(x.look(1), 0), 2);
                }
                CHECK.same("put", inside ? x.word(1, i) : 7, 7);
            }
        }
    }

    /** "5 a size below 0": 0 is right, also the highest ints below 0 are not. */
    private static void sizes() {
        ByteProcessor x = Images.plain().main(0, p(0), 0, 1, c(LOAD, 0, ROW, SIZE, RETV)).loaded();
        CHECK.same("0", run(x, 0, 0, 0).look(0), 2);
        int[] wrong = {-1, MIN};
        for (int size : wrong) {
            run(x, 0, size, 0);
            CHECK.same("THROWN", x.look(0), 3);
            CHECK.same("TRAP 5", x.word(x.look(1), 0), 5);
        }
        int[] much = {257, MAX};
        for (int size : much) {
            CHECK.same("ROOM of " + size, run(x, 0, size, 0).look(0), 4);
        }
    }

    /** Frames of one LOCAL, n, that call one another till n is 0 and then push 16 words. */
    private static ByteProcessor deep(int firstLocals) {
        int[] code = Arrays.copyOf(c(LOAD, 0, IF0, 12, LOAD, 0, PUSH, 1, SUB, CALL, 1, RET), 12 + 16 * 2 + 1);
        for (int i = 0; i < 16; i++) {
            code[12 + 2 * i] = PUSH;
            code[13 + 2 * i] = 20 + i;
        }
        code[44] = RET;
        return Images.plain().main(0, p(0), NO, firstLocals, c(LOAD, 0, CALL, 1, RET))
            .main(1, p(0), NO, 1, code).loaded(16, 8, 16, 0);
    }

    /** "The PILE has 400 words": all are used where the last frame just fits. */
    private static void fullPile() {
        // The first frame has 1 + 3 words; frame i of METHOD 1 begins at 4 + 4 * i: 380 + 4 + 16 are 400 for i = 94.
        ByteProcessor x = deep(1);
        x.begin(0, 94, 0);
        x.go(2 + 94 * 6 + 2 + 16);
        CHECK.same("it runs", x.look(0), 1);
        CHECK.same("BASE", x.look(5), 380);
        CHECK.same("words", x.look(6), 400);
        CHECK.same("LOW", x.look(7), 392);
        CHECK.same("the last one", x.pile(399, 0), 35);
        CHECK.thrown("one more", NoSuchElementException.class, () -> x.pile(400, 0));
        x.go(1000);
        CHECK.same("returned", x.look(0), 2);
        CHECK.same("with one frame more", run(x, 0, 95, 0).look(0), 5);
    }

    /** "If with all these and 16 words more there would be more than 400": 400 is right, 401 not, for each CALL. */
    private static void stack() {
        int[] ops = {CALL, CALLV, CALLX};
        for (int op : ops) {
            // Frame i begins at locals + 3 + words * i and has words, 16 more behind them.
            int words = op == CALL ? 4 : 5;
            int frames = op == CALL ? 94 : 75;
            for (int locals = 1; locals <= 2; locals++) {
                int last = locals + 3 + words * frames + words + 16;
                CHECK.same("words with 16 more", last, 399 + locals);
                ByteProcessor x = climbing(op, locals);
                CHECK.same("op " + op + " to " + last, run(x, 0, frames, 0).look(0), locals == 1 ? 2 : 5);
                CHECK.same("op " + op + ", one frame less", run(x, 0, frames - 1, 0).look(0), 2);
            }
        }
    }

    private static ByteProcessor climbing(int op, int locals) {
        int isStatic = op == CALL ? 1 : 0;
        int n = 1 - isStatic;
        int[] code = op == CALL ? c(LOAD, 0, IF0, 11, LOAD, 0, PUSH, 1, SUB, CALL, 1, RET)
            : c(LOAD, 1, IF0, 13, LOAD, 0, LOAD, 1, PUSH, 1, SUB, op, 1, RET);
        int[] first = op == CALL ? c(LOAD, 0, CALL, 1, RET) : c(NEW, 0, LOAD, 0, op, 1, RET);
        return Images.plain().main(0, p(0), NO, locals, first)
            .method(0, 1, isStatic, p(0), NO, 1 + n, code).loaded(16, 8, 16, 0);
    }

    /** "The run ends instead: STACK (ahead of all that)": nothing is pushed, nothing is looked for in the CACHE. */
    private static void stackDoesNothing() {
        ByteProcessor x = deep(2);
        x.begin(0, 94, 0);
        x.go(2 + 93 * 6 + 5);
        CHECK.same("it runs", x.look(0), 1);
        CHECK.same("at the CALL", x.look(4), 9);
        int[] before = new int[24];
        for (int what = 7; what < 24; what++) {
            before[what] = x.look(what);
        }
        long cycles = x.cycles();
        int done = x.look(2);
        CHECK.same("go", x.go(9), 1);
        CHECK.same("STACK", x.look(0), 5);
        CHECK.same("0", x.look(1), 0);
        CHECK.same("the INSTRUCTION is done", x.look(2), done + 1);
        CHECK.same("its cycles", x.cycles() - cycles, 1 + 4);
        for (int what = 7; what < 24; what++) {
            CHECK.same("look " + what, x.look(what), before[what]);
        }
    }

    /** "(Ahead of all that, but behind TRAP 1)": null where no frame would fit is a TRAP. */
    private static void nullAheadOfStack() {
        int[] ops = {CALLV, CALLX};
        for (int op : ops) {
            // The deepest frame begins at 5 + 5 * 74 = 375 and ends at 380: another one would need 380 + 5 + 16 = 401.
            ByteProcessor x = Images.plain().main(0, p(0), NO, 2, c(NEW, 0, LOAD, 0, op, 1, RET))
                .method(0, 1, 0, p(0), NO, 2,
                    c(LOAD, 1, IF0, 14, LOAD, 0, LOAD, 1, PUSH, 1, SUB, op, 1, RET, NULL, PUSH, 0, op, 1, RET))
                .loaded(16, 8, 16, 0);
            run(x, 0, 74, 0);
            CHECK.same("THROWN", x.look(0), 3);
            CHECK.same("TRAP 1", x.word(x.look(1), 0), 1);
            CHECK.same("LOW of no PILE", x.look(7), 0);
        }
    }

    /** "INPUT is a row of ints (64 at most)"; "6 IN without a number left": none at all, and behind the last one. */
    private static void inputs() {
        ByteProcessor x = Images.plain().main(0, p(0), 0, 1,
            c(IN, POP, INC, 0, 255, LOAD, 0, IFNOT0, 0, IN, RETV)).loaded();
        CHECK.same("IN without any", run(x, 0, 5, 0).look(0), 3);
        CHECK.same("none taken", x.look(22), 0);
        for (int i = 0; i < 64; i++) {
            x.input(1000 + i);
        }
        CHECK.no("a 65th", x.input(7));
        CHECK.same("the 64th", run(x, 0, 63, 0).look(1), 1063);
        CHECK.same("all taken", x.look(22), 64);
        run(x, 0, 64, 0);
        CHECK.same("the 65th", x.look(0), 3);
        CHECK.same("TRAP 6", x.word(x.look(1), 0), 6);
        CHECK.same("64 were taken", x.look(22), 64);
        CHECK.same("64 stay", x.look(21), 64);
        x.begin(0, 1, 0);
        CHECK.same("from its beginning on", x.look(22), 0);
        x.go(1);
        CHECK.same("the first one", x.pile(4, 0), 1000);
    }

    /** "OUTPUT has 200 ints at most, what is more is lost": OUT goes on as ever. */
    private static void outputs() {
        ByteProcessor x = Images.plain().main(0, p(0), NO, 1, c(LOAD, 0, OUT, INC, 0, 1, JUMP, 0)).loaded();
        x.begin(0, 0, 0);
        x.go(4 * 200);
        CHECK.same("200", x.look(20), 200);
        CHECK.same("the last", x.out(199), 199);
        long cycles = x.cycles();
        x.go(1);
        CHECK.same("one more is pushed", x.look(6), 5);
        x.go(1);
        CHECK.same("it is taken", x.look(6), 4);
        CHECK.same("its cycles", x.cycles() - cycles, 2);
        CHECK.same("200 still", x.look(20), 200);
        CHECK.same("the last still", x.out(199), 199);
        CHECK.thrown("200", NoSuchElementException.class, () -> x.out(200));
        CHECK.thrown("MAX", NoSuchElementException.class, () -> x.out(MAX));
        CHECK.thrown("-1", NoSuchElementException.class, () -> x.out(-1));
        CHECK.thrown("MIN", NoSuchElementException.class, () -> x.out(MIN));
    }

    /** "HANDLES 1 .. 60": without a free one a COLLECTION that goes on is ended at once, and none more begins. */
    private static void sixtyWhileOneGoesOn() {
        ByteProcessor x = Images.plain().main(0, p(), NO, 1, c(NEW, 0, STORE, 0, JUMP, 0)).loaded(2, 8, 16, 0);
        x.begin(0, 0, 0);
        x.go(3 * 59);
        CHECK.yes("collect", x.collect());
        x.go(1);
        CHECK.same("the 60th is there", x.handle(60, 4), BLACK);
        CHECK.same("60", x.look(19), 60);
        CHECK.same("no STEPS", x.look(13), 0);
        x.go(2);
        x.go(1);
        CHECK.same("59, which was of the PILE, and the end", x.look(13), 2);
        CHECK.same("none goes on", x.look(15), 0);
        CHECK.same("one began", x.look(14), 1);
        CHECK.same("59, 60 and the least free one", x.look(19), 3);
        CHECK.same("which is 1", x.pile(4, 0), 1);
        CHECK.same("58 is free", x.handle(58, 0), -1);
        CHECK.same("60 stays", x.handle(60, 0), 0);
    }

    /** "USED + words is at most W": as many as there are, and one more. */
    private static void justFits() {
        for (int size = 7; size <= 9; size++) {
            ByteProcessor x = Images.plain().main(0, p(0), NO, 2, c(PUSH, 8, ROW, STORE, 1, LOAD, 0, ROW, POP, RET))
                .loaded(2, 16, 16, 0);
            x.begin(0, size, 0);
            x.go(3);
            CHECK.same("8 of 16 begin none", x.look(14), 0);
            x.go(2);
            CHECK.same("8 and " + size, x.look(0), size == 9 ? 4 : 1);
            CHECK.same("its STEPS", x.look(13), size == 9 ? 1 + 8 + 1 : 0);
            CHECK.same("one began, behind it or for it", x.look(14), 1);
            CHECK.same("USED", x.look(16), size == 9 ? 8 : 8 + size);
        }
    }

    /** "While one goes on, if TOP + LEFT + words is" at most W. */
    private static void justFitsWhileOneGoesOn() {
        for (int size = 10; size <= 12; size++) {
            ByteProcessor x = Images.plain().main(0, p(0), NO, 2, c(PUSH, 9, ROW, STORE, 1, LOAD, 0, ROW, POP, RET))
                .loaded(2, 16, 20, 0);
            x.begin(0, size, 0);
            x.go(4);
            x.collect();
            CHECK.same("LEFT", x.look(18), 9);
            x.go(1);
            boolean fits = size <= 11;
            CHECK.same("0, 9 and " + size, x.look(0), fits ? 1 : 4);
            CHECK.same("its STEPS", x.look(13), fits ? 0 : 2 * (1 + 9 + 1));
            CHECK.same("began", x.look(14), fits ? 1 : 2);
            CHECK.same("TOP", x.look(17), fits ? size : 0);
        }
    }

    /** "A COLLECTION that goes on is ended at once": if that is enough no other one begins for it. */
    private static void endingIsEnough() {
        ByteProcessor x = Images.plain().main(0, p(), NO, 2,
            c(PUSH, 15, ROW, POP, PUSH, 15, ROW, STORE, 0, PUSH, 11, ROW, STORE, 1, RET)).loaded(2, 16, 40, 0);
        x.begin(0, 0, 0);
        x.go(5);
        CHECK.same("30 are above 20: one began", x.look(14), 1);
        CHECK.same("LEFT", x.look(18), 30);
        x.go(3);
        CHECK.same("it runs", x.look(0), 1);
        CHECK.same("STEPS of the one that went on", x.look(13), 1 + 15 + 1);
        CHECK.same("15 and 11 are used", x.look(16), 26);
        CHECK.same("and one began behind it", x.look(14), 2);
        CHECK.same("the least free HANDLE", x.pile(5, 0), 1);
        CHECK.same("it lies behind", x.handle(1, 2), 15);
        CHECK.same("in the SPACE that is used now", x.handle(1, 3), 1);
    }

    /** Ending is not enough: "if it is not there still, one begins and is ended at once". */
    private static void endingIsNotEnough() {
        ByteProcessor x = Images.plain().main(0, p(), NO, 1, c(PUSH, 30, ROW, POP, PUSH, 15, ROW, STORE, 0, RET))
            .loaded(2, 16, 40, 0);
        x.begin(0, 0, 0);
        x.go(3);
        CHECK.same("the ROW was of the PILE", x.handle(1, 4), GREY);
        x.go(2);
        CHECK.same("it runs", x.look(0), 1);
        CHECK.same("STEPS of both", x.look(13), 1 + 30 + 1 + 1);
        CHECK.same("two began", x.look(14), 2);
        CHECK.same("none goes on", x.look(15), 0);
        CHECK.same("USED", x.look(16), 15);
        CHECK.same("SPACE", x.look(23), 0);
    }

    /** A HANDLE without words is there where all words are used; it lies behind them. */
    private static void noWordsInFullSpace() {
        ByteProcessor x = Images.plain().main(0, p(), NO, 1,
            c(PUSH, 16, ROW, STORE, 0, PUSH, 0, POP, NEW, 0, POP, JUMP, 5)).loaded(2, 16, 16, 8);
        x.begin(0, 0, 0);
        x.go(4);
        CHECK.same("18 STEPS ended it", x.look(13), 18);
        CHECK.same("all are used", x.look(16), 16);
        x.go(2);
        CHECK.same("it runs", x.look(0), 1);
        CHECK.same("where", x.handle(2, 2), 16);
        CHECK.same("which SPACE", x.handle(2, 3), 1);
        CHECK.same("USED is above 8: one began", x.look(14), 2);
        CHECK.same("GREY", x.handle(2, 4), GREY);
        CHECK.thrown("it has no word", NoSuchElementException.class, () -> x.word(2, 0));
    }

    /** "If there is none: the COLLECTION ENDS": of an empty HEAP it has one STEP. */
    private static void emptyHeap() {
        ByteProcessor x = Images.plain().main(0, p(), NO, 1, c(PUSH, 1, POP, JUMP, 0)).loaded(2, 16, 16, 8);
        x.begin(0, 0, 0);
        CHECK.yes("collect", x.collect());
        CHECK.same("LEFT", x.look(18), 0);
        CHECK.same("it goes on", x.look(15), 1);
        CHECK.no("not twice", x.collect());
        CHECK.same("one began", x.look(14), 1);
        x.go(1);
        CHECK.same("one STEP of 8", x.look(13), 1);
        CHECK.same("the SPACES are turned", x.look(23), 1);
        CHECK.same("none goes on", x.look(15), 0);
        CHECK.yes("collect again", x.collect());
        x.go(1);
        CHECK.same("turned again", x.look(23), 0);
    }

    /** Class 2: an int, a reference to class 2, a ROW. */
    private static Images classes() {
        return new Images().klass(NO).klass(0, 0).klass(0, 0, 4, 1);
    }

    /** "A PUT of a REFERENCE": an int that was there, though it is a WHITE one's number, makes nothing GREY. */
    private static void intsAreNoReferences() {
        ByteProcessor x = classes().main(0, p(), NO, 2, c(
            NEW, 2, STORE, 0,
            NEW, 2, POP,
            PUSH, 1, ROW, STORE, 1,
            LOAD, 0, PUSH, 2, PUT, 2, 0,
            LOAD, 1, PUSH, 0, PUSH, 2, PUTAT,
            LOAD, 0, PUSH, 9, PUT, 2, 0,
            LOAD, 1, PUSH, 0, PUSH, 9, PUTAT, RET)).loaded(2, 16, 64, 0);
        x.begin(0, 0, 0);
        x.go(14);
        CHECK.same("the field is 2", x.word(1, 0), 2);
        CHECK.same("the ROW has 2", x.word(3, 0), 2);
        x.collect();
        CHECK.same("2 is WHITE", x.handle(2, 4), 0);
        x.go(3);
        CHECK.same("PUT", x.word(1, 0), 9);
        CHECK.same("2 is WHITE behind PUT", x.handle(2, 4), 0);
        x.go(4);
        CHECK.same("PUT AT", x.word(3, 0), 9);
        CHECK.same("2 is WHITE behind PUT AT", x.handle(2, 4), 0);
    }

    /** "What was there, if it is WHITE, is GREY ahead of that": of a BLACK object, too; once, and never null. */
    private static void blackObjects() {
        ByteProcessor x = classes().main(0, p(), NO, 3, c(
            NEW, 2, STORE, 0,                           // 1
            LOAD, 0, NEW, 2, PUT, 2, 1,                 // 2, which 1 has
            NEW, 2, STORE, 1,                           // 3, BLACK
            LOAD, 1, LOAD, 0, GET, 2, 1, PUT, 2, 1,     // null was there
            LOAD, 1, NULL, PUT, 2, 1,                   // 2 was there
            LOAD, 0, NULL, PUT, 2, 1,                   // and here
            PUSH, 0, POP, JUMP, 37)).loaded(2, 16, 64, 0);
        x.begin(0, 0, 0);
        x.go(5);
        x.collect();
        x.go(2);
        CHECK.same("3 is BLACK", x.handle(3, 4), BLACK);
        x.go(4);
        CHECK.same("3 has 2", x.word(3, 1), 2);
        CHECK.same("2 is WHITE", x.handle(2, 4), 0);
        x.go(3);
        CHECK.same("2 is GREY", x.handle(2, 4), GREY);
        x.go(3);
        CHECK.same("2 is GREY once", x.handle(2, 4), GREY);
        CHECK.same("1 has none", x.word(1, 1), 0);
    }

    /** Each GREY one is copied once, however often it is met. */
    private static void greyOnce() {
        ByteProcessor x = classes().main(0, p(), NO, 3, c(
            NEW, 2, STORE, 0, LOAD, 0, STORE, 1, LOAD, 0, STORE, 2,
            LOAD, 0, LOAD, 0, PUT, 2, 1, LOAD, 0, LOAD, 0, LOAD, 0, PUT, 2, 1,
            PUSH, 0, POP, JUMP, 28)).loaded(2, 16, 64, 8);
        x.begin(0, 0, 0);
        x.go(12);
        x.collect();
        x.go(1);
        CHECK.same("1 + 3 + 1", x.look(13), 5);
        CHECK.same("USED", x.look(16), 3);
    }

    /** "RAM: words LOW .. of the PILE, at most RAM of them": as many are no SPILL, one more is one. */
    private static void justFitsInRam() {
        ByteProcessor x = Images.plain().main(0, p(), NO, 5, c(PUSH, 1, POP, JUMP, 0)).loaded(16, 8, 16, 0);
        x.begin(0, 0, 0);
        CHECK.same("8 words", x.look(6), 8);
        CHECK.same("no SPILL", x.look(8), 0);
        CHECK.same("LOW", x.look(7), 0);
        CHECK.same("cycles of the MISS alone", x.cycles(), 7);
        x.go(1);
        CHECK.same("a SPILL", x.look(8), 1);
        CHECK.same("LOW", x.look(7), 1);
        CHECK.same("its cycle", x.cycles(), 7 + 2);
        x.go(1);
        CHECK.same("no FILL: nothing is below", x.look(9), 0);
        CHECK.same("LOW stays", x.look(7), 1);
        x.go(2);
        CHECK.same("eight of nine again: no SPILL", x.look(8), 1);
    }

    /** "LOAD (ahead of its push), INC of a LOCAL below LOW": the LOCAL at LOW is not below. */
    private static void atLow() {
        ByteProcessor x = Images.plain().main(0, p(0, 0), NO, 6,
            c(LOAD, 0, STORE, 2, LOAD, 1, POP, LOAD, 2, POP, INC, 1, 1, LOAD, 1, STORE, 1, RET)).loaded(16, 8, 16, 0);
        x.begin(0, 3, 4);
        CHECK.same("LOW", x.look(7), 1);
        cost(x, "LOAD 0 is below; a SPILL", 1 + 2 + 1);
        CHECK.same("LOW", x.look(7), 2);
        cost(x, "STORE 2 is at LOW", 1);
        cost(x, "LOAD 1 is below", 1 + 2);
        cost(x, "POP", 1);
        cost(x, "LOAD 2 is not", 1);
        cost(x, "POP", 1);
        cost(x, "INC 1 is below", 1 + 2);
        cost(x, "LOAD 1 is below", 1 + 2);
        cost(x, "STORE 1 is below", 1 + 2);
        ByteProcessor y = Images.plain().main(0, p(0, 0), NO, 6,
            c(INC, 1, 1, INC, 0, 1, LOAD, 1, RET)).loaded(16, 8, 16, 0);
        y.begin(0, 3, 4);
        cost(y, "INC 1 is at LOW", 1);
        cost(y, "INC 0 is below", 1 + 2);
        cost(y, "LOAD 1 is at LOW ahead of its push, which is a SPILL", 1 + 1);
        CHECK.same("LOW", y.look(7), 2);
    }

    private static void cost(ByteProcessor x, String what, int cycles) {
        long before = x.cycles();
        x.go(1);
        CHECK.same(what, x.cycles() - before, cycles);
    }

    /** "Its blocks ((L + 15) / 16, rounded down)": 16 bytes are one, 17 two; 250 are 16, which K = 15 never has. */
    private static void blocks() {
        int[] lengths = {1, 15, 16, 17, 31, 32, 33, 48, 240, 241, 250};
        for (int length : lengths) {
            int[] code = new int[length];
            Arrays.fill(code, RET);
            int blocks = (length + 15) / 16;
            for (int k = 2; k <= 16; k++) {
                ByteProcessor x = Images.plain().main(0, p(), NO, 0, code).loaded(k, 8, 16, 0);
                x.begin(0, 0, 0);
                boolean fits = blocks <= k;
                String what = "L " + length + ", K " + k;
                CHECK.same(what + ": cycles", x.cycles(), 3 + 4 * blocks);
                CHECK.same(what + ": MISSES", x.look(11), 1);
                CHECK.same(what + ": NEXT", x.look(12), fits ? blocks % k : 0);
                CHECK.same(what + ": the last block", x.cached(blocks - 1), fits ? 0 : -1);
                CHECK.same(what + ": none behind", x.cached(blocks), -1);
            }
        }
    }

    /** "A METHOD with more blocks than K is never there": each time a MISS, and all else is gone. */
    private static void neverThere() {
        int[] code = new int[33];
        Arrays.fill(code, RET);
        System.arraycopy(c(LOAD, 0, IF0, 8, CALL, 1, CALL, 1), 0, code, 0, 8);
        ByteProcessor x = Images.plain().main(0, p(0), NO, 1, code).main(1, p(), NO, 0, c(RET)).loaded(2, 64, 16, 0);
        x.begin(0, 1, 0);
        CHECK.same("not there", x.cached(0), -1);
        x.go(2);
        CHECK.same("a JUMP looks for none", x.look(11), 1);
        x.go(1);
        CHECK.same("METHOD 1 is there", x.cached(0), 1);
        CHECK.same("NEXT", x.look(12), 1);
        long before = x.cycles();
        x.go(1);
        CHECK.same("RETURN and a MISS of three blocks", x.cycles() - before, 4 + 3 + 12);
        CHECK.same("METHOD 1 is gone", x.cached(0), -1);
        CHECK.same("NEXT", x.look(12), 0);
        x.go(2);
        CHECK.same("MISSES", x.look(11), 5);
        CHECK.same("HITS", x.look(10), 0);
    }

    /** "CAST and IS 1 for each class gone up from the object's own to c (or to class 0)": none, and 15 of 16 classes. */
    private static void goingUp() {
        Images chain = new Images().klass(NO).klass(0, 0);
        for (int c = 2; c < 15; c++) {
            chain.klass(c - 1);
        }
        chain.klass(0);
        for (int c = 0; c < 16; c++) {
            chain.main(c, p(), 0, 0, c(NEW, 14, IS, c, RETV));
        }
        ByteProcessor x = chain.loaded();
        for (int c = 0; c < 16; c++) {
            x.begin(c, 0, 0);
            x.go(1);
            cost(x, "IS " + c, c == 15 ? 1 + 14 : 1 + 14 - c);
            x.go(1);
            CHECK.same("IS " + c, x.look(1), c == 15 ? 0 : 1);
        }
    }

    /** The word on the PILE's top behind the first n INSTRUCTIONS: whether it is a REFERENCE. */
    private static void kind(String what, int want, int n, int... code) {
        ByteProcessor x = new Images().klass(NO).klass(0, 0).klass(0, 1, 0, 2).klass(2, 0, 1)
            .main(0, p(0, 0), NO, 3, code).main(1, p(0), 0, 1, c(LOAD, 0, RETV)).main(2, p(), 1, 0, c(NULL, RETV)).loaded();
        x.input(1);
        x.begin(0, 1, 1);
        x.go(n);
        CHECK.same(what, x.pile(x.look(6) - 1, 1), want);
    }

    /** "Each an int or a REFERENCE": what each INSTRUCTION gives. */
    private static void kinds() {
        kind("PUSH b", 0, 1, PUSH, 1, RET);
        kind("PUSH w", 0, 1, PUSHW, 0, 1, RET);
        kind("NULL", 1, 1, NULL, RET);
        kind("LOAD of a", 0, 1, LOAD, 0, RET);
        kind("LOAD of b", 0, 1, LOAD, 1, RET);
        kind("LOAD of null", 1, 3, NULL, STORE, 0, LOAD, 0, RET);
        kind("LOAD behind INC", 0, 2, INC, 0, 1, LOAD, 0, RET);
        kind("DUP", 1, 2, NULL, DUP, RET);
        kind("DUP of an int", 0, 2, PUSH, 1, DUP, RET);
        kind("SWAP", 1, 3, NULL, PUSH, 1, SWAP, RET);
        kind("SWAP, the other way", 0, 3, PUSH, 1, NULL, SWAP, RET);
        for (int op = ADD; op <= URIGHT; op++) {
            kind("op " + op, 0, 3, PUSH, 1, PUSH, 1, op, RET);
        }
        for (int op = NEG; op <= TO_SHORT; op++) {
            kind("op " + op, 0, 2, PUSH, 1, op, RET);
        }
        kind("NEW", 1, 1, NEW, 0, RET);
        kind("ROW", 1, 2, PUSH, 1, ROW, RET);
        kind("SIZE", 0, 3, PUSH, 1, ROW, SIZE, RET);
        kind("GET AT", 0, 4, PUSH, 1, ROW, PUSH, 0, GETAT, RET);
        kind("GET a ROW", 1, 2, NEW, 2, GET, 2, 0, RET);
        kind("GET an int", 0, 2, NEW, 2, GET, 2, 1, RET);
        kind("GET an object", 1, 2, NEW, 2, GET, 2, 2, RET);
        kind("GET an int of class 3", 0, 2, NEW, 3, GET, 3, 3, RET);
        kind("GET a ROW of class 3", 1, 2, NEW, 3, GET, 3, 4, RET);
        kind("GET an int of class 1", 0, 2, NEW, 1, GET, 1, 0, RET);
        kind("CALL", 0, 4, PUSH, 1, CALL, 1, RET);
        kind("CALL of a reference", 1, 3, CALL, 2, RET);
        kind("CAST", 1, 2, NEW, 2, CAST, 0, RET);
        kind("CAST of null", 1, 2, NULL, CAST, 0, RET);
        kind("IS", 0, 2, NEW, 2, IS, 2, RET);
        kind("IN", 0, 1, IN, RET);
    }

    /** "What ran is gone: PILE, HEAP (all HANDLES are free), cycles, counts, OUTPUT, CACHE". */
    private static void whatRanIsGone() {
        int[] deep = {LOAD, 0, OUT, IN, POP, NEW, 1, STORE, 1, NEW, 1, POP, LOAD, 0, CALL, 1, RET};
        Images image = Images.plain().main(0, p(0, 0), NO, 12, c(LOAD, 0, CALL, 1, CALL, 2, CALL, 2, JUMP, 0))
            .main(1, p(0), NO, 20, deep).main(2, p(), NO, 0, c(RET));
        for (int n = 1; n <= 90; n++) {
            ByteProcessor x = image.loaded(2, 8, 16, 2);
            for (int i = 0; i < 4; i++) {
                x.input(i);
            }
            x.begin(0, 3, 4);
            x.go(n);
            x.collect();
            x.go(n);
            ByteProcessor y = image.loaded(2, 8, 16, 2);
            for (int i = 0; i < 4; i++) {
                y.input(i);
            }
            x.begin(0, 5, 6);
            y.begin(0, 5, 6);
            Answers.of(y).stay(CHECK, "begin behind " + 2 * n, Answers.of(x));
            CHECK.same("go", x.go(40), y.go(40));
            for (int what = 0; what <= 26; what++) {
                CHECK.same("look " + what, x.look(what), y.look(what));
            }
            CHECK.same("cycles", x.cycles(), y.cycles());
        }
    }

    /** "All HANDLES are free", the 60th, too; and the SPACE that is used is the first one again. */
    private static void allSixtyAreFree() {
        ByteProcessor x = Images.plain().main(0, p(), NO, 1, c(NEW, 0, STORE, 0, JUMP, 0)).loaded(2, 8, 16, 1);
        x.begin(0, 0, 0);
        x.go(3 * 60);
        CHECK.same("60", x.look(19), 60);
        CHECK.same("the 60th", x.handle(60, 0), 0);
        x.begin(0, 0, 0);
        CHECK.same("none", x.look(19), 0);
        for (int h = 0; h <= 61; h++) {
            CHECK.same("HANDLE " + h, x.handle(h, 0), -1);
        }
        x.collect();
        x.go(1);
        CHECK.same("turned", x.look(23), 1);
        x.begin(0, 0, 0);
        CHECK.same("the first SPACE", x.look(23), 0);
    }

    /** "WHITE ones are free": the 60th, too, and it is made again. */
    private static void whiteSixtieth() {
        ByteProcessor x = Images.plain().main(0, p(), NO, 1, c(NEW, 0, POP, JUMP, 0)).loaded(2, 8, 16, 8);
        x.begin(0, 0, 0);
        x.go(3 * 60);
        CHECK.same("60", x.look(19), 60);
        CHECK.yes("collect", x.collect());
        CHECK.same("WHITE", x.handle(60, 4), 0);
        x.begin(0, 0, 0);
        x.go(3 * 60 - 1);
        x.collect();
        x.go(1);
        CHECK.same("all are free", x.look(19), 0);
        CHECK.same("the 60th is", x.handle(60, 0), -1);
        x.go(3 * 60);
        CHECK.same("60 again", x.look(19), 60);
    }

    /** "0 or null at first": also where other words lay ahead, in both SPACES. */
    private static void zeroAtFirst() {
        ByteProcessor x = Images.plain().main(0, p(), NO, 2, c(
            PUSH, 4, ROW, STORE, 0,
            LOAD, 0, PUSH, 0, PUSH, 99, PUTAT, LOAD, 0, PUSH, 3, PUSH, 98, PUTAT,
            NULL, STORE, 0, JUMP, 0)).loaded(2, 16, 16, 0);
        x.begin(0, 0, 0);
        for (int round = 0; round < 40; round++) {
            x.go(2);
            int h = x.pile(x.look(6) - 1, 0);
            for (int i = 0; i < 4; i++) {
                CHECK.same("round " + round + ", word " + i, x.word(h, i), 0);
            }
            x.go(1 + 8);
            CHECK.same("PUT", x.word(h, 3), 98);
            x.go(3);
        }
        CHECK.yes("some COLLECTIONS", x.look(14) > 5);
    }

    /** "LEFT is the words of all HANDLES that are not free": of those alone, also when one began ahead. */
    private static void leftAnew() {
        ByteProcessor x = Images.plain().main(0, p(), NO, 1,
            c(PUSH, 5, ROW, POP, PUSH, 3, ROW, STORE, 0, PUSH, 0, POP, JUMP, 9)).loaded(2, 16, 64, 8);
        x.begin(0, 0, 0);
        x.go(6);
        x.collect();
        CHECK.same("LEFT", x.look(18), 8);
        x.go(1);
        CHECK.same("it ended, 5 were left", x.look(15), 0);
        x.collect();
        CHECK.same("LEFT anew", x.look(18), 3);
        CHECK.same("TOP anew", x.look(17), 0);
    }

    /** "To a word of the HANDLE that is being copied that is copied already goes to both copies": whatever is copied. */
    private static void putWhileCopied() {
        for (int turns = 0; turns < 2; turns++) {
            for (int copied = 0; copied <= 5; copied++) {
                for (int word = 0; word < 5; word++) {
                    String what = "SPACE " + turns + ", " + copied + " copied, put to " + word;
                    ByteProcessor x = atPut(turns, copied, word);
                    CHECK.same(what + ": SPACE", x.look(23), turns);
                    CHECK.same(what + ": LEFT", x.look(18), 5 - copied);
                    x.go(1);
                    CHECK.same(what + ": at once", x.word(2, word), 44);
                    x.go(12);
                    CHECK.same(what + ": it ended", x.look(15), 0);
                    CHECK.same(what + ": where it lies", x.handle(2, 2), 3);
                    for (int i = 0; i < 5; i++) {
                        CHECK.same(what + ", word " + i, x.word(2, i), i == word ? 44 : 0);
                    }
                    for (int i = 0; i < 3; i++) {
                        CHECK.same(what + ", the ROW ahead", x.word(1, i), 0);
                    }
                }
            }
        }
    }

    /** Stands at a PUT AT to the second of two ROWS, of which so many words are copied, a STEP behind each INSTRUCTION. */
    private static ByteProcessor atPut(int turns, int copied, int word) {
        int whole = 1 + 3 + 1 + 5 + 1;
        int waits = turns * whole + 1 + 3 + 1 + copied;
        int[] front = c(PUSH, 3, ROW, STORE, 1, PUSH, 5, ROW, STORE, 2, LOAD, 2, LOAD, 0, PUSH, 44);
        int put = front.length + 3 * waits;
        int[] code = Arrays.copyOf(front, put + 5);
        for (int i = 0; i < waits; i++) {
            System.arraycopy(c(INC, 0, 0), 0, code, front.length + 3 * i, 3);
        }
        System.arraycopy(c(PUTAT, NULL, POP, JUMP, put + 1), 0, code, put, 5);
        ByteProcessor x = Images.plain().main(0, p(0), NO, 3, code).loaded(2, 32, 64, 1);
        x.begin(0, word, 0);
        x.go(9);
        for (int i = 0; i < turns; i++) {
            x.collect();
            x.go(whole);
        }
        x.collect();
        x.go(1 + 3 + 1 + copied);
        return x;
    }

    /** "The METHOD that called, NONE of the first; .. of the first both 0": also behind a run that stood elsewhere. */
    private static void firstFrame() {
        ByteProcessor x = Images.plain().main(0, p(), NO, 2, c(PUSH, 1, CALL, 1, RET))
            .main(1, p(0), NO, 1, c(LOAD, 0, CALL, 1, RET)).loaded();
        x.begin(0, 0, 0);
        x.go(7);
        CHECK.yes("deep", x.look(5) > 0);
        x.begin(0, 0, 0);
        int[] want = {0, 0, -1, 0, 0};
        for (int i = 0; i < 5; i++) {
            CHECK.same("word " + i, x.pile(i, 0), want[i]);
        }
        CHECK.same("words", x.look(6), 5);
        CHECK.same("BASE", x.look(5), 0);
        CHECK.same("PLACE", x.look(4), 0);
    }

    /** Four HANDLERS of which none is right by its class or PLACE: the object is THROWN; each one alone catches. */
    private static void fourHandlers() {
        int[] code = c(NULL, POP, NEW, 1, THROW, RET);
        int[] wrong = {4, 5, 5, 2};
        int[] ahead = {0, 4, 5, 0};
        int[] behind = {5, 6, 5, 0};
        int[] right = {4, 5, 5, 1};
        for (int i = 0; i <= 4; i++) {
            int[][] handlers = {wrong, ahead, behind, wrong};
            if (i < 4) {
                handlers[i] = right;
            }
            ByteProcessor x = new Images().klass(NO).klass(0, 0).klass(1).main(0, p(), NO, 0, code, handlers).loaded();
            x.begin(0, 0, 0);
            x.go(100);
            CHECK.same("right one " + i, x.look(0), i < 4 ? 2 : 3);
            CHECK.same("done", x.look(2), i < 4 ? 5 : 4);
        }
    }

    /** "A cache of k blocks (2 to 16)": with more wanted there are 16, and 16 blocks bring NEXT to 0. */
    private static void mostBlocks() {
        int[] code = new int[250];
        Arrays.fill(code, RET);
        int[] wanted = {16, 17, 100, MAX};
        for (int k : wanted) {
            ByteProcessor x = Images.plain().main(0, p(), NO, 0, code).loaded(k, 8, 16, 0);
            x.begin(0, 0, 0);
            CHECK.same("NEXT, k " + k, x.look(12), 0);
            CHECK.same("block 15, k " + k, x.cached(15), 0);
            CHECK.same("block 16, k " + k, x.cached(16), -1);
        }
    }

    /** Just inside and just outside of what can be looked at. */
    private static void looks() {
        ByteProcessor x = Images.plain().main(0, p(), NO, 1, c(PUSH, 2, ROW, STORE, 0, JUMP, 5)).loaded(3, 8, 16, 0);
        x.begin(0, 0, 0);
        x.go(3);
        CHECK.same("words", x.look(6), 4);
        CHECK.same("the last one", x.pile(3, 0), 0);
        CHECK.same("a REFERENCE", x.pile(0, 1), 1);
        int[] outside = {MIN, -1, 4, 399, 400, MAX};
        for (int i : outside) {
            CHECK.thrown("word " + i, NoSuchElementException.class, () -> x.pile(i, 0));
            CHECK.thrown("kind " + i, NoSuchElementException.class, () -> x.pile(i, 1));
        }
        int[] whats = {MIN, -1, 2, MAX};
        for (int what : whats) {
            CHECK.thrown("what " + what, NoSuchElementException.class, () -> x.pile(0, what));
        }
        int[] words = {MIN, -1, 2, MAX};
        CHECK.same("the last word", x.word(1, 1), 0);
        for (int i : words) {
            CHECK.thrown("word " + i + " of 1", NoSuchElementException.class, () -> x.word(1, i));
        }
        int[] handles = {MIN, -1, 0, 2, 60, 61, MAX};
        for (int h : handles) {
            CHECK.thrown("word of " + h, NoSuchElementException.class, () -> x.word(h, 0));
            CHECK.same("HANDLE " + h, x.handle(h, 1), -1);
        }
        int[] handleWhats = {MIN, -1, 5, MAX};
        for (int what : handleWhats) {
            CHECK.same("handle what " + what, x.handle(1, what), -1);
        }
        int[] blocks = {MIN, -1, 1, 2, 3, MAX};
        CHECK.same("block 0", x.cached(0), 0);
        for (int i : blocks) {
            CHECK.same("block " + i, x.cached(i), -1);
        }
        int[] looks = {MIN, -1, 27, MAX};
        for (int what : looks) {
            CHECK.same("look " + what, x.look(what), -1);
        }
        CHECK.same("look 26", x.look(26), 0);
    }

    public static void main(String[] args) {
        inc();
        narrowed();
        shifts();
        switches();
        places();
        sizes();
        fullPile();
        stack();
        stackDoesNothing();
        nullAheadOfStack();
        inputs();
        outputs();
        sixtyWhileOneGoesOn();
        justFits();
        justFitsWhileOneGoesOn();
        endingIsEnough();
        endingIsNotEnough();
        noWordsInFullSpace();
        emptyHeap();
        intsAreNoReferences();
        blackObjects();
        greyOnce();
        justFitsInRam();
        atLow();
        blocks();
        neverThere();
        goingUp();
        looks();
        kinds();
        whatRanIsGone();
        allSixtyAreFree();
        whiteSixtieth();
        zeroAtFirst();
        leftAnew();
        putWhileCopied();
        firstFrame();
        fourHandlers();
        mostBlocks();
        CHECK.end();
    }
}
