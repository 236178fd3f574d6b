import java.util.Arrays;

/** The edges that the document names of the tape, of images and of verifying: a test for each sentence (promises 2 to 9). */
public final class ImageEdgesTest extends Ops {
    private static final Check CHECK = new Check("ImageEdgesTest");
    private static final int[] RETURN = {RET};
    private static final int MIN = Integer.MIN_VALUE;
    private static final int MAX = Integer.MAX_VALUE;

    private ImageEdgesTest() {
    }

    private static ByteProcessor fresh() {
        return new ByteProcessor(16, 64, 256, 0);
    }

    /** The byte at which the FORM is wrong, or -100 - the answer if it is not. */
    private static int wrongAt(int... bytes) {
        ByteProcessor x = fresh();
        Images.feed(x, bytes);
        int answer = x.load();
        return answer == 1 ? x.fault(1) : -100 - answer;
    }

    private static void formFine(String what, int... bytes) {
        CHECK.yes(what + ": the FORM is right", wrongAt(bytes) <= -100);
    }

    private static int[] with(int[] bytes, int at, int value) {
        int[] other = bytes.clone();
        other[at] = value;
        return other;
    }

    private static int[] body(int length) {
        int[] code = new int[length];
        Arrays.fill(code, RET);
        return code;
    }

    /** 48 METHODS of 75 bytes of CODE, the last one of 82: 9 + 48 * 8 + 3607 are 4000 bytes. */
    private static Images full() {
        Images image = Images.plain();
        for (int m = 0; m < 47; m++) {
            image.method(m / 32, m % 32, 1, p(), NO, 0, body(75));
        }
        int[] last = body(82);
        System.arraycopy(c(PUSH, 77, OUT, JUMP, 80), 0, last, 0, 5);
        last[80] = NULL;
        return image.method(1, 15, 1, p(), NO, 20, last);
    }

    /** "The TAPE is bytes, 4000 at most": an image may have them all. */
    private static void fullTape() {
        int[] bytes = full().bytes();
        CHECK.same("bytes", bytes.length, 4000);
        ByteProcessor x = fresh();
        for (int at = 0; at < 4000; at += 20) {
            int[] v = new int[5];
            for (int i = 0; i < 20; i++) {
                v[i / 4] = v[i / 4] << 8 | bytes[at + i];
            }
            CHECK.same("feed", x.feed(v[0], v[1], v[2], v[3], v[4]), at + 20);
        }
        CHECK.same("no more", x.feed(1, 2, 3, 4, 5), -1);
        CHECK.same("load", x.load(), 0);
        CHECK.same("METHODS", x.look(25), 48);
        CHECK.same("the last one's last PLACE", x.type(47, 81, -1), 1);
        CHECK.same("its word", x.type(47, 81, 100), -2);
        CHECK.same("its last LOCAL", x.type(47, 81, 19), -3);
        CHECK.same("PLACES", x.method(47, 8), 5);
        x.begin(47, 0, 0);
        CHECK.same("go", x.go(100), 5);
        CHECK.same("it puts out", x.out(0), 77);
        CHECK.same("\"The tape, empty then\"", x.look(26), 0);
        CHECK.same("feed behind", x.feed(0, 0, 0, 0, 0), 20);
    }

    /** "At the tape's end, if it ends too early": also of a full tape. */
    private static void fullTapeTooEarly() {
        int[] bytes = full().bytes();
        int at = 4000 - 82 - 2;
        CHECK.same("the last L", bytes[at], 82);
        CHECK.same("one byte too few", wrongAt(with(bytes, at, 83)), 4000);
        CHECK.same("one byte too many", wrongAt(with(bytes, at, 81)), 3999);
    }

    /** "NONE, and none comes, if these would be more than 4000": what was there stays as it was. */
    private static void noneComes() {
        ByteProcessor x = fresh();
        int[] bytes = full().bytes();
        Images.feed(x, bytes);
        CHECK.same("refused", x.feed(MAX, MIN, -1, 0, 1), -1);
        CHECK.same("4000 still", x.look(26), 4000);
        CHECK.same("unchanged", x.load(), 0);
    }

    /** "The tape has its first n bytes alone", all of them, none, and never more. */
    private static void end() {
        ByteProcessor x = fresh();
        x.feed(1, 2, 3, 4, 5);
        CHECK.same("all", x.end(20), 20);
        CHECK.same("one more", x.end(21), -1);
        CHECK.same("MAX", x.end(MAX), -1);
        CHECK.same("MIN", x.end(MIN), -1);
        CHECK.same("-1", x.end(-1), -1);
        CHECK.same("it stays", x.look(26), 20);
        CHECK.same("one", x.end(1), 1);
        CHECK.same("two of one", x.end(2), -1);
        CHECK.same("none", x.end(0), 0);
        CHECK.same("none again", x.end(0), 0);
        CHECK.same("empty", x.look(26), 0);
    }

    /** What end() cut off is gone: other bytes come in its place. */
    private static void endCuts() {
        int[] bytes = Images.plain().main(0, p(), NO, 0, RETURN).bytes();
        ByteProcessor x = fresh();
        Images.feed(x, with(bytes, 17, 99));
        x.end(17);
        x.feed(RET << 24, 0, 0, 0, 0);
        x.end(18);
        CHECK.same("load", x.load(), 0);
    }

    /** Bytes come behind the tape wherever it was cut: an image in pieces of 1 to 20 bytes is the same image. */
    private static void pieces() {
        int[] bytes = Images.plain()
            .main(0, p(), NO, 1, c(PUSHW, 200, 129, OUT, PUSH, 255, STORE, 0, INC, 0, 127, LOAD, 0, OUT, RET)).bytes();
        for (int piece = 1; piece <= 20; piece++) {
            ByteProcessor x = fresh();
            for (int at = 0; at < bytes.length; at += piece) {
                CHECK.same("feed", feedFrom(x, bytes, at), at + 20);
                x.end(Math.min(at + piece, bytes.length));
            }
            CHECK.same("load of pieces of " + piece, x.load(), 0);
            x.begin(0, 0, 0);
            x.go(100);
            CHECK.same("pieces of " + piece + ": a word", x.out(0), -14207);
            CHECK.same("pieces of " + piece + ": bytes", x.out(1), 126);
        }
    }

    /** Behind the bytes come others that are all of ones, which the next piece must take the place of. */
    private static int feedFrom(ByteProcessor x, int[] bytes, int at) {
        int[] v = new int[5];
        for (int i = 0; i < 20; i++) {
            v[i / 4] = v[i / 4] << 8 | (at + i < bytes.length ? bytes[at + i] : 255);
        }
        return x.feed(v[0], v[1], v[2], v[3], v[4]);
    }

    /** "C, CLASSES 0 .. C - 1, 2 to 16", and a TYPE is "2 + a class": with 16 of them 17 is the last one. */
    private static void classes() {
        Images image = new Images().klass(NO).klass(0, 0);
        for (int c = 2; c < 16; c++) {
            image.klass(c - 1, 17);
        }
        int[] bytes = image.main(0, p(17), 17, 1, c(LOAD, 0, RETV)).bytes();
        formFine("16", bytes);
        CHECK.same("C 17", wrongAt(with(bytes, 2, 17)), 2);
        CHECK.same("C 1", wrongAt(with(bytes, 2, 1)), 2);
        int last = 3 + 2 + 3 + 13 * 3;
        CHECK.same("SUPER of 15", bytes[last], 14);
        formFine("SUPER 0", with(bytes, last, 0));
        CHECK.same("SUPER its own number", wrongAt(with(bytes, last, 15)), last);
        CHECK.same("SUPER 255", wrongAt(with(bytes, last, 255)), last);
        CHECK.same("TYPE 18", wrongAt(with(bytes, last + 2, 18)), last + 2);
        int method = last + 4;
        CHECK.same("a PARAMETER's TYPE 18", wrongAt(with(bytes, method + 4, 18)), method + 4);
        CHECK.same("RESULT 18", wrongAt(with(bytes, method + 5, 18)), method + 5);
        CHECK.same("CLASS 16", wrongAt(with(bytes, method, 16)), method);
        formFine("CLASS 15", with(bytes, method, 15));
    }

    /** "F, its own FIELDS, 0 to 6 (of class 0 0, of class 1 1 at least)". */
    private static void fields() {
        int[] six = new Images().klass(NO).klass(0, 0, 1, 2, 3, 0, 1).main(0, p(), NO, 0, RETURN).bytes();
        formFine("class 1 with 6", six);
        CHECK.same("with 7", wrongAt(with(six, 6, 7)), 6);
        CHECK.same("with none", wrongAt(with(six, 6, 0)), 6);
        CHECK.same("class 0 with one", wrongAt(with(six, 4, 1)), 4);
        CHECK.same("the first of class 1 is a ROW", wrongAt(with(six, 7, 1)), 7);
        formFine("the second may be", with(six, 8, 0));
        int[] none = new Images().klass(NO).klass(0, 0).klass(1).klass(2, 1, 1, 1, 1, 1, 1)
            .main(0, p(), NO, 0, RETURN).bytes();
        formFine("class 2 with none, class 3 with 6", none);
        CHECK.same("class 3 with 7", wrongAt(with(none, 11, 7)), 11);
    }

    /** "Its NAME 0 .. 31 (none that a METHOD of the same CLASS had ahead)", be they STATIC or not. */
    private static void names() {
        Images image = new Images().klass(NO).klass(0, 0)
            .method(0, 4, 1, p(), NO, 1, RETURN)
            .method(0, 31, 0, p(), NO, 1, RETURN)
            .method(0, 0, 1, p(), NO, 1, RETURN)
            .method(1, 4, 0, p(), NO, 1, RETURN);
        int[] bytes = image.bytes();
        formFine("four", bytes);
        int third = 9 + 2 * 9;
        CHECK.same("its NAME", bytes[third + 1], 0);
        CHECK.same("as the first, STATIC both", wrongAt(with(bytes, third + 1, 4)), third + 1);
        CHECK.same("as the second, one STATIC", wrongAt(with(bytes, third + 1, 31)), third + 1);
        CHECK.same("NAME 32", wrongAt(with(bytes, third + 1, 32)), third + 1);
        formFine("of another CLASS", with(bytes, third + 9 + 1, 0));
    }

    /** "Its CLASS (not below that of the METHOD ahead)": the same one and a higher one are right. */
    private static void order() {
        int[] bytes = new Images().klass(NO).klass(0, 0).klass(0)
            .method(1, 0, 1, p(), NO, 0, RETURN).method(1, 1, 1, p(), NO, 0, RETURN).bytes();
        int second = bytes.length - 9;
        formFine("the same", bytes);
        formFine("a higher one", with(bytes, second, 2));
        CHECK.same("a lower one", wrongAt(with(bytes, second, 0)), second);
        CHECK.same("no class", wrongAt(with(bytes, second, 3)), second);
        formFine("the first one's may be any", with(bytes, second - 9, 0));
    }

    /** "PARAMETERS, 0 to 5"; "LOCALS (as many, with one more if it is not STATIC, at least, 20 at most)". */
    private static void locals() {
        for (int params = 0; params <= 5; params++) {
            for (int isStatic = 0; isStatic <= 1; isStatic++) {
                int least = isStatic == 1 ? params : params + 1;
                int[] bytes = Images.plain().method(0, 0, isStatic, new int[params], NO, least, RETURN).bytes();
                int at = 9 + 4 + params + 1;
                String what = params + " PARAMETERS, STATIC " + isStatic;
                CHECK.same(what, bytes[at], least);
                formFine(what, bytes);
                formFine(what + ", 20 LOCALS", with(bytes, at, 20));
                CHECK.same(what + ", 21 LOCALS", wrongAt(with(bytes, at, 21)), at);
                if (least > 0) {
                    CHECK.same(what + ", one too few", wrongAt(with(bytes, at, least - 1)), at);
                }
            }
        }
        int[] six = Images.plain().method(0, 0, 1, new int[6], NO, 6, RETURN).bytes();
        CHECK.same("6 PARAMETERS", wrongAt(six), 9 + 3);
        CHECK.same("STATIC 2", wrongAt(with(six, 9 + 2, 2)), 9 + 2);
    }

    /** "L, bytes of CODE, 1 to 250"; "H, HANDLERS, 0 to 4"; "FROM (below L), TO (above FROM, at most L), TARGET (below L)". */
    private static void codeAndHandlers() {
        int[] h = {249, 250, 249, 1};
        int[] bytes = Images.plain().main(0, p(), NO, 0, body(250), h, h, h, h).bytes();
        int first = 9 + 8;
        formFine("250 bytes, 4 HANDLERS", bytes);
        CHECK.same("L 251", wrongAt(with(bytes, 9 + 6, 251)), 9 + 6);
        CHECK.same("L 0", wrongAt(with(bytes, 9 + 6, 0)), 9 + 6);
        CHECK.same("H 5", wrongAt(with(bytes, 9 + 7, 5)), 9 + 7);
        for (int i = 0; i < 4; i++) {
            int at = first + 4 * i;
            CHECK.same("FROM is L", wrongAt(with(bytes, at, 250)), at);
            CHECK.same("TO is FROM", wrongAt(with(bytes, at + 1, 249)), at + 1);
            CHECK.same("TO is above L", wrongAt(with(bytes, at + 1, 251)), at + 1);
            CHECK.same("TARGET is L", wrongAt(with(bytes, at + 2, 250)), at + 2);
            CHECK.same("no class", wrongAt(with(bytes, at + 3, 2)), at + 3);
            formFine("FROM 0", with(bytes, at, 0));
            formFine("TARGET 0", with(bytes, at + 2, 0));
            formFine("class 0", with(bytes, at + 3, 0));
        }
        int[] one = Images.plain().main(0, p(), NO, 0, RETURN, new int[] {0, 1, 0, 0}).bytes();
        formFine("one byte, a HANDLER of it", one);
    }

    /** "M, METHODS 0 .. M - 1, 1 to 48". */
    private static void methods() {
        int[] bytes = full().bytes();
        CHECK.same("M", bytes[8], 48);
        CHECK.same("M 49", wrongAt(with(bytes, 8, 49)), 8);
        CHECK.same("M 0", wrongAt(with(bytes, 8, 0)), 8);
        CHECK.same("M 47: it goes on behind the last", wrongAt(with(bytes, 8, 47)), 4000 - 82 - 8);
    }

    /** TARGETS at the first and the last byte of the longest CODE. */
    private static void longestCode() {
        int[] code = body(250);
        System.arraycopy(c(JUMP, 249), 0, code, 0, 2);
        ByteProcessor x = Images.plain().main(0, p(), NO, 0, code).loaded();
        CHECK.same("the last PLACE", x.type(0, 249, -1), 0);
        CHECK.same("two PLACES", x.method(0, 8), 2);
        CHECK.same("none ahead of it", x.type(0, 248, -1), -1);
        CHECK.same("none behind it", x.type(0, 250, -1), -1);
        code[1] = 250;
        CHECK.same("a TARGET behind it", why(code), 300);
        code[1] = 2;
        code[249] = PUSH;
        CHECK.same("no OPERAND left", why(code), 200 + 249);
        code[248] = PUSH;
        code[249] = RET;
        CHECK.same("RET is no PLACE, but none goes on there", why(code), 0);
        code[2] = NULL;
        code[3] = POP;
        code[4] = JUMP;
        code[5] = 248;
        CHECK.same("behind the last there is none", why(code), 700 + 248);
    }

    /** CODE of 250 bytes that are all INSTRUCTIONS: the most PLACES. */
    private static void mostPlaces() {
        int[] code = new int[250];
        Arrays.fill(code, NEG);
        code[0] = IN;
        code[249] = RET;
        ByteProcessor x = Images.plain().main(0, p(), NO, 0, code).loaded();
        CHECK.same("PLACES", x.method(0, 8), 250);
        CHECK.same("times done", x.method(0, 9), 250);
        CHECK.same("the last one", x.type(0, 249, 100), 0);
        code[249] = 59;
        CHECK.same("no INSTRUCTION at the last byte", why(code), 100 + 249);
        code[249] = NEG;
        CHECK.same("none behind the last", why(code), 700 + 249);
    }

    /** WHY * 100 and where, or 0. */
    private static int why(int... code) {
        ByteProcessor x = fresh();
        Images image = Images.plain().main(0, p(), NO, 20, code);
        return image.loadInto(x) == 2 ? x.fault(3) * 100 + x.fault(4) : 0;
    }

    /** "The types on the METHOD's pile (16 at most), the type of each LOCAL": 20 LOCALS and 16 words are all told. */
    private static void fullState() {
        int[] code = body(250);
        for (int i = 0; i < 20; i++) {
            code[3 * i] = NULL;
            code[3 * i + 1] = STORE;
            code[3 * i + 2] = i;
        }
        Arrays.fill(code, 60, 76, NULL);
        code[76] = JUMP;
        code[77] = 249;
        ByteProcessor x = Images.plain().main(0, p(), NO, 20, code).loaded();
        for (int i = 0; i < 20; i++) {
            CHECK.same("LOCAL " + i + " ahead of its STORE", x.type(0, 3 * i + 1, i), -3);
        }
        fullStateAt(x, 76);
        fullStateAt(x, 249);
    }

    private static void fullStateAt(ByteProcessor x, int place) {
        for (int i = 0; i < 20; i++) {
            CHECK.same("LOCAL " + i + " at " + place, x.type(0, place, i), -2);
        }
        CHECK.same("words", x.type(0, place, -1), 16);
        for (int i = 0; i < 16; i++) {
            CHECK.same("word " + i + " at " + place, x.type(0, place, 100 + i), -2);
        }
        CHECK.same("LOCAL 20", x.type(0, place, 20), -1);
        CHECK.same("word 16", x.type(0, place, 116), -1);
        CHECK.same("word -1", x.type(0, place, 99), -1);
        CHECK.same("i MAX", x.type(0, place, MAX), -1);
        CHECK.same("i MIN", x.type(0, place, MIN), -1);
    }

    /** "6 the pile would have more than 16": 16 are right, whatever was taken ahead. */
    private static void fullPile() {
        int[] code = new int[60];
        Arrays.fill(code, 0, 15, NULL);
        code[15] = DUP;
        code[16] = RET;
        CHECK.same("DUP of 15", why(Arrays.copyOf(code, 17)), 0);
        code[15] = NULL;
        code[16] = DUP;
        code[17] = RET;
        CHECK.same("DUP of 16", why(Arrays.copyOf(code, 18)), 616);
        code[16] = SWAP;
        CHECK.same("SWAP of 16", why(Arrays.copyOf(code, 18)), 0);
        code[16] = IS;
        code[17] = 0;
        code[18] = RET;
        CHECK.same("IS of 16", why(Arrays.copyOf(code, 19)), 0);
        Images image = Images.plain().main(0, p(), NO, 0, with(with(Arrays.copyOf(code, 19), 16, CALL), 17, 1))
            .main(1, p(1, 1, 1, 1, 1), 1, 5, c(NULL, RETV));
        CHECK.same("a CALL takes ahead of its RESULT", image.loadInto(fresh()), 0);
    }

    /** "4 the pile has fewer than are taken": exactly as many are enough for a CALL of six words. */
    private static void callTakesSix() {
        for (int have = 0; have <= 7; have++) {
            int[] code = new int[have + 3];
            Arrays.fill(code, 0, have, NULL);
            code[have] = CALLV;
            code[have + 1] = 1;
            code[have + 2] = RET;
            Images image = Images.plain().main(0, p(), NO, 0, code).method(0, 1, 0, p(1, 1, 1, 1, 1), NO, 6, RETURN);
            ByteProcessor x = fresh();
            CHECK.same("load with " + have, image.loadInto(x), have < 6 ? 2 : 0);
            CHECK.same("why with " + have, x.fault(3), have < 6 ? 4 : -1);
        }
    }

    /** "NONE where there is none such, and ahead of any", and for other whats. */
    private static void faults() {
        ByteProcessor x = fresh();
        int[] whats = {MIN, -1, 0, 1, 2, 3, 4, 5, MAX};
        for (int what : whats) {
            CHECK.same("ahead of any: fault " + what, x.fault(what), -1);
        }
        CHECK.same("an empty tape", x.load(), 1);
        told(x, 1, 0, -1, -1, -1);
        Images.plain().main(0, p(), NO, 0, RETURN).main(1, p(), NO, 0, c(NULL, 59)).loadInto(x);
        told(x, 2, -1, 1, 1, 1);
        x.end(3);
        x.load();
        told(x, 1, 3, -1, -1, -1);
        Images.plain().main(0, p(), NO, 0, RETURN).loadInto(x);
        told(x, 0, -1, -1, -1, -1);
    }

    /** Four METHODS whose STATES differ, with some LOCALS more. */
    private static Images fourStates(int more) {
        return Images.plain()
            .main(0, p(), NO, more, c(NULL, POP, RET))
            .main(1, p(), NO, more + 1, c(PUSH, 1, STORE, 0, RET))
            .main(2, p(0), NO, more + 2, c(NEW, 1, STORE, 1, JUMP, 6, RET))
            .main(3, p(3, 1), NO, more + 3, c(LOAD, 0, STORE, 2, LOAD, 1, POP, RET));
    }

    private static void theirStates(ByteProcessor x, int more, int... order) {
        for (int m : order) {
            String of = "METHOD " + m + " with " + more + ": ";
            CHECK.same(of + "LOCALS", x.type(m, 0, more + m), -1);
            CHECK.same(of + "the last LOCAL", x.type(m, 0, more + m - 1), -3);
            CHECK.same(of + "no PLACE", x.type(m, m == 0 ? 3 : 1, -1), -1);
            CHECK.same(of + "what the first one pushes", x.type(m, m == 0 ? 1 : 2, 100), new int[] {-2, 0, 3, 3}[m]);
            CHECK.same(of + "one word", x.type(m, m == 0 ? 1 : 2, -1), 1);
            CHECK.same(of + "no second one", x.type(m, m == 0 ? 1 : 2, 101), -1);
        }
    }

    /** The STATES of each METHOD are told whatever was asked ahead, whatever other images were refused since. */
    private static void statesInAnyOrder() {
        ByteProcessor x = fourStates(1).loaded();
        theirStates(x, 1, 3, 0, 2, 1, 1, 3, 2, 0);
        Images.feed(x, with(fourStates(2).bytes(), 0, 1));
        CHECK.same("a wrong FORM", x.load(), 1);
        theirStates(x, 1, 0, 3);
        CHECK.same("a wrong METHOD", fourStates(5).main(4, p(), NO, 0, c(POP, RET)).loadInto(x), 2);
        theirStates(x, 1, 3, 2, 0, 1);
        told(x, 2, -1, 4, 4, 0);
        x.end(0);
        CHECK.same("another image", fourStates(7).loadInto(x), 0);
        theirStates(x, 7, 3, 1, 2, 0);
        CHECK.same("the same again", fourStates(1).loadInto(x), 0);
        theirStates(x, 1, 2, 3, 1, 0);
        CHECK.same("PLACES of one", x.method(3, 8), 5);
        CHECK.same("times done", x.method(3, 9), 5);
    }

    private static void told(ByteProcessor x, int... want) {
        for (int what = 0; what < 5; what++) {
            CHECK.same("fault " + what, x.fault(what), want[what]);
        }
        int[] others = {MIN, -1, 5, MAX};
        for (int what : others) {
            CHECK.same("fault " + what, x.fault(what), -1);
        }
    }

    /** "NONE for others, without an image": classes, METHODS, NAMES and whats just outside, and far. */
    private static void others() {
        ByteProcessor x = new Images().klass(NO).klass(0, 0).klass(1, 1, 4)
            .main(0, p(), NO, 2, RETURN).method(2, 31, 0, p(), NO, 1, RETURN).loaded();
        int[] far = {MIN, MIN + 1, -2, -1, 3, 16, 48, 1000, MAX - 1, MAX};
        for (int i : far) {
            CHECK.same("class " + i, x.klass(i, 1), -1);
            CHECK.same("METHOD " + i, x.method(i, 0), -1);
            CHECK.same("table of class " + i, x.table(i, 31), -1);
            CHECK.same("STATE of METHOD " + i, x.type(i, 0, -1), -1);
            CHECK.same("STATE at PLACE " + i, x.type(0, i, -1), -1);
            CHECK.same("LOCAL " + i, x.type(0, 0, i), i == -1 ? 0 : -1);
        }
        int[] names = {MIN, -1, 0, 30, 32, MAX};
        for (int name : names) {
            CHECK.same("NAME " + name, x.table(2, name), -1);
        }
        CHECK.same("NAME 31", x.table(2, 31), 1);
        int[] whats = {MIN, -1, 6, 7, MAX};
        for (int what : whats) {
            CHECK.same("klass what " + what, x.klass(2, what), -1);
        }
        CHECK.same("the last FIELD", x.klass(2, 5), 4);
        int[] methodWhats = {MIN, -1, 10, MAX};
        for (int what : methodWhats) {
            CHECK.same("method what " + what, x.method(0, what), -1);
        }
        CHECK.same("METHOD 2", x.method(2, 0), -1);
        CHECK.same("METHOD 1", x.method(1, 0), 2);
    }

    /** "2 to 16" classes: the last one's TYPE, 17, is neither NULL nor a ROW, and class 0's is a class. */
    private static void firstAndLastClass() {
        Images image = new Images().klass(NO).klass(0, 0, 2);
        for (int c = 2; c < 16; c++) {
            image.klass(c == 15 ? 1 : 0, 17);
        }
        ByteProcessor x = image
            .main(0, p(), NO, 2, c(NEW, 15, STORE, 0, NEW, 0, STORE, 1, LOAD, 0, LOAD, 1, PUT, 1, 1, LOAD, 1, CALL, 1, RET))
            .main(1, p(2), NO, 1, c(LOAD, 0, IFNULL, 0, NEW, 15, NULL, PUT, 15, 2, RET)).loaded();
        CHECK.same("class 15", x.type(0, 12, 0), 17);
        CHECK.same("class 0", x.type(0, 12, 1), 2);
        CHECK.same("LOAD of class 15", x.type(0, 10, 100), 17);
        CHECK.same("class 0 of all FIELDS", x.klass(0, 2), 0);
        CHECK.same("class 0 of its own", x.klass(0, 1), 0);
        CHECK.same("class 0 has none above", x.klass(0, 0), -1);
        CHECK.same("class 15 has those of class 1 and one", x.klass(15, 2), 3);
        CHECK.same("its TYPE", x.klass(15, 5), 17);
        ByteProcessor y = fresh();
        Images wrong = new Images().klass(NO).klass(0, 0);
        for (int c = 2; c < 16; c++) {
            wrong.klass(0);
        }
        wrong.main(0, p(), NO, 0, c(NEW, 15, SIZE, POP, RET));
        CHECK.same("class 15 is no ROW", wrong.loadInto(y), 2);
        CHECK.same("5", y.fault(3), 5);
        CHECK.same("at SIZE", y.fault(4), 2);
    }

    /** "Then of the HANDLERS, in order, 3 a TARGET that is none (told at that byte)": the first, the last one. */
    private static void handlersTargets() {
        int[] right = {0, 1, 2, 0};
        for (int i = 0; i < 4; i++) {
            int[][] handlers = {right, right, right, right};
            handlers[i] = new int[] {0, 1, 1, 0};
            Images image = Images.plain().main(0, p(), NO, 0, c(PUSH, 0, RET), handlers);
            ByteProcessor x = fresh();
            CHECK.same("load, HANDLER " + i, image.loadInto(x), 2);
            CHECK.same("WHY", x.fault(3), 3);
            CHECK.same("told at that byte", x.fault(4), 1);
        }
    }

    /** What is known AT a PLACE is what comes there, not what is known at the PLACE that was done ahead of it. */
    private static void statesOfJumps() {
        int[] afterStore = {LOAD, 0, IF0, 8, NULL, STORE, 1, RET, LOAD, 1, RET};
        ByteProcessor x = fresh();
        CHECK.same("load", Images.plain().main(0, p(0), NO, 2, afterStore).loadInto(x), 2);
        CHECK.same("LOCAL 1 is NOTHING there", x.fault(3) * 100 + x.fault(4), 508);
        int[] inc = {LOAD, 0, IF0, 8, NULL, STORE, 0, RET, INC, 0, 1, RET};
        ByteProcessor y = Images.plain().main(0, p(0), NO, 1, inc).loaded();
        CHECK.same("LOCAL 0 is an INT there", y.type(0, 8, 0), 0);
        CHECK.same("and NULL behind its STORE", y.type(0, 7, 0), -2);
    }

    /** PLACES are those of the METHOD itself: what is one in the METHOD ahead is none here. */
    private static void placesOfEach() {
        Images image = Images.plain().main(0, p(), NO, 0, c(NULL, POP, RET)).main(1, p(), NO, 0, c(PUSH, 0, POP, JUMP, 1));
        ByteProcessor x = fresh();
        CHECK.same("load", image.loadInto(x), 2);
        CHECK.same("METHOD", x.fault(2), 1);
        CHECK.same("WHY", x.fault(3), 3);
        CHECK.same("PLACE", x.fault(4), 3);
    }

    /** Loads that are refused leave nothing behind for the next one: neither CODE nor what was TO DO. */
    private static void manyRefused() {
        int[] bytes = Arrays.copyOf(full().bytes(), 4000);
        int length = 9 + 20 * 83;
        int[] twenty = Arrays.copyOf(with(bytes, 8, 20), length + 1);
        ByteProcessor x = fresh();
        Images.feed(x, twenty);
        for (int i = 0; i < 8; i++) {
            CHECK.same("one byte too many", x.load(), 1);
            CHECK.same("there", x.fault(1), length);
        }
        x.end(length);
        CHECK.same("load", x.load(), 0);
        CHECK.same("its CODE", run(x, 19), 2);
        Images wrong = Images.plain().main(0, p(0), NO, 1, c(LOAD, 0, IF0, 7, POP, RET, RET, NULL, POP, RET));
        Images right = Images.plain().main(0, p(0), NO, 1, c(LOAD, 0, POP, RET, PUSH, 0, RET, POP, RET));
        for (int i = 0; i < 3; i++) {
            CHECK.same("WRONG", wrong.loadInto(x), 2);
            CHECK.same("WHY", x.fault(3), 4);
            CHECK.same("load", right.loadInto(x), 0);
            CHECK.same("PLACES with a STATE", x.method(0, 8), 3);
            CHECK.same("times done", x.method(0, 9), 3);
            CHECK.same("never come to", x.type(0, 7, -1), -1);
        }
    }

    /** Classes one below the other, of one field each but for class 0, with one METHOD of each. */
    private static Images chain(int classes, int... code) {
        Images all = new Images().klass(NO);
        for (int c = 1; c < classes; c++) {
            all.klass(c - 1, 0);
        }
        all.main(0, p(), NO, 1, code);
        for (int c = 1; c < classes; c++) {
            all.method(c, c, 0, p(), NO, 1, RETURN);
        }
        return all;
    }

    private static void refusedBehind(ByteProcessor x, int classes, int... code) {
        CHECK.same("operand " + code[1] + " of " + code[0] + " with " + classes + " classes", chain(classes, code).loadInto(x), 2);
        CHECK.same("why", x.fault(3), 2);
    }

    /** A class, field or METHOD behind the last one is none, also where an image ahead had one. */
    private static void operandsBehindTheLast() {
        for (int classes : new int[] {2, 5, 15, 16}) {
            ByteProcessor x = fresh();
            CHECK.same("the most classes", chain(16, RETURN).loadInto(x), 0);
            CHECK.same("and again", chain(16, RETURN).loadInto(x), 0);
            for (int none : new int[] {classes, 16, 254, 255}) {
                for (int op : new int[] {NEW, CAST, IS}) {
                    refusedBehind(x, classes, op, none, RET);
                }
                for (int op : new int[] {GET, PUT}) {
                    refusedBehind(x, classes, op, none, 0, RET);
                    refusedBehind(x, classes, op, classes - 1, none, RET);
                }
                refusedBehind(x, classes, CALLV, none, RET);
                refusedBehind(x, classes, CALLX, none, RET);
                refusedBehind(x, classes, CALL, none, RET);
            }
            int last = classes - 1;
            CHECK.same("the last ones are there", chain(classes, NEW, last, CAST, last, GET, last, last - 1, POP, NEW, last,
                CALLV, last, RET).loadInto(x), 0);
            CHECK.same("no class", x.klass(classes, 0), -1);
            CHECK.same("no METHOD", x.method(classes, 0), -1);
            CHECK.same("no field", x.klass(last, 3 + last), -1);
            CHECK.same("the last field", x.klass(last, 2 + last), 0);
            CHECK.same("no table", x.table(classes, 1), -1);
            CHECK.same("none for the NAME", x.table(last, classes), -1);
            CHECK.same("none for the NAME above", x.table(last - 1, last), -1);
            CHECK.same("the last METHOD", x.table(last, last), last);
        }
    }

    private static int run(ByteProcessor x, int m) {
        x.begin(m, 0, 0);
        x.go(100);
        return x.look(0);
    }

    private static Images[] various() {
        int[] longest = body(200);
        System.arraycopy(c(IN, SWITCH, 0, 3, 100, 150, 199, 8), 0, longest, 0, 8);
        int[] any = {0, 1, 9, 0};
        return new Images[] {
            new Images().klass(NO).klass(0, 0).klass(1, 1, 4, 0).klass(2, 5)
                .main(0, p(1, 1, 1, 1, 1), NO, 9, longest, any).method(2, 0, 0, p(), NO, 3, c(NULL, POP, RET)),
            Images.plain().main(4, p(), NO, 0, c(PUSH, 1, POP, JUMP, 0)),
            Images.plain().main(0, p(), 0, 20, c(IN, RETV, RET, POP, NULL, THROW), new int[] {0, 1, 3, 1})
                .main(1, p(0), NO, 1, c(LOAD, 0, IF0, 0, RET)),
            new Images().klass(NO).klass(0, 0, 0).klass(0)
                .main(7, p(0, 0), NO, 2, c(NULL, THROW)).method(1, 0, 0, p(1), 1, 2, c(LOAD, 1, RETV))};
    }

    /** A load that answers 0 leaves nothing of the images ahead: each tells and does as in a new object. */
    private static void imageBehindImage() {
        Images[] all = various();
        for (int first = 0; first < all.length; first++) {
            for (int second = 0; second < all.length; second++) {
                for (int third = 0; third < all.length; third++) {
                    ByteProcessor x = fresh();
                    CHECK.same("load", all[first].loadInto(x), 0);
                    CHECK.same("load", all[second].loadInto(x), 0);
                    Images.feed(x, 202, 254, 2, 255, 0, 0, 1, 0, 48, 0);
                    CHECK.same("a wrong one between", x.load(), 1);
                    CHECK.same("load", all[third].loadInto(x), 0);
                    ByteProcessor y = fresh();
                    all[third].loadInto(y);
                    x.begin(0, 3, 4);
                    y.begin(0, 3, 4);
                    if (y.look(0) == 1) {
                        CHECK.same("go", x.go(20), y.go(20));
                    }
                    Answers.of(y).stay(CHECK, "image " + first + ", " + second + " ahead of " + third, Answers.of(x));
                }
            }
        }
    }

    public static void main(String[] args) {
        firstAndLastClass();
        handlersTargets();
        statesOfJumps();
        placesOfEach();
        manyRefused();
        imageBehindImage();
        operandsBehindTheLast();
        fullTape();
        fullTapeTooEarly();
        noneComes();
        end();
        endCuts();
        pieces();
        classes();
        fields();
        names();
        order();
        locals();
        codeAndHandlers();
        methods();
        longestCode();
        mostPlaces();
        fullState();
        fullPile();
        callTakesSix();
        faults();
        statesInAnyOrder();
        others();
        CHECK.end();
    }
}
