/** Promises 4 to 8: reading an image, the first byte that can't be so, classes, methods and tables. */
public final class FormTest {
    private static final Check CHECK = new Check("FormTest");
    private static final int[] RET = {Images.RET};
    private static final int[] RET_NULL = {Images.NULL, Images.RETV};
    private static final int[] RET_0 = {Images.PUSH, 0, Images.RETV};

    private FormTest() {
    }

    /** The bytes of an image with three classes and four methods, one of them overridden; places are told behind. */
    private static int[] sample() {
        return new int[] {
            202, 254, 3,                                   // 0
            255, 0,                                        // 3: class 0
            0, 2, 0, 4,                                    // 5: class 1
            1, 1, 1,                                       // 9: class 2
            4,                                             // 12: methods
            0, 5, 1, 1, 0, 255, 2, 3, 1, 0, 3, 2, 1, 5, 5, 52, // 13: 17 type, 18 result, 19 locals, 20 L, 21 H, 22 handler, 26
            1, 7, 0, 2, 1, 3, 4, 3, 1, 0, 53,               // 29
            1, 8, 0, 0, 255, 1, 1, 0, 52,                   // 40
            2, 7, 0, 2, 1, 3, 4, 3, 2, 0, 2, 53};           // 49
    }

    private static int wrongByte(int[] bytes) {
        ByteProcessor x = new ByteProcessor(2, 8, 16, 0);
        Images.feed(x, bytes);
        int answer = x.load();
        CHECK.same("fault(0)", x.fault(0), answer);
        if (answer != 1) {
            CHECK.same("fault(1)", x.fault(1), -1);
            return -answer;
        }
        for (int what = 2; what <= 4; what++) {
            CHECK.same("fault(" + what + ") of a wrong FORM", x.fault(what), -1);
        }
        CHECK.same("the tape stays", x.look(26), bytes.length);
        return x.fault(1);
    }

    /** Sets a byte: it must be the one that is told as wrong. */
    private static void bad(int at, int... values) {
        for (int v : values) {
            int[] bytes = sample();
            bytes[at] = v;
            CHECK.same("byte " + at + " is " + v, wrongByte(bytes), at);
        }
    }

    /** Sets a byte: the FORM is told as wrong elsewhere, or not at all. */
    private static void fine(int at, int... values) {
        for (int v : values) {
            int[] bytes = sample();
            bytes[at] = v;
            if (wrongByte(bytes) == at) {
                CHECK.same("byte " + at + " may be " + v, 1, 0);
            }
        }
    }

    private static void bytes() {
        bad(0, 0, 201, 203, 255);
        bad(1, 0, 253, 255);
        bad(2, 0, 1, 17, 255);
        bad(3, 0, 254, 1);
        bad(4, 1, 6, 255);
        bad(5, 1, 255);
        bad(6, 0, 7, 255);
        bad(7, 1, 2, 255);
        bad(8, 5, 6, 255);
        fine(8, 0, 1, 2, 3, 4);
        bad(9, 2, 3, 255);
        fine(9, 0, 1);
        bad(10, 7, 255);
        fine(10, 0, 6);
        bad(11, 5, 255);
        bad(12, 0, 49, 255);
        fine(12, 1, 48);
        bad(13, 3, 255);
        bad(14, 32, 255);
        fine(14, 0, 31);
        bad(15, 2, 255);
        bad(16, 6, 255);
        fine(16, 0, 5);
        bad(17, 5, 255);
        bad(18, 5, 254);
        fine(18, 4, 0);
        bad(19, 0, 21, 255);
        fine(19, 1, 20);
        bad(20, 0, 251, 255);
        fine(20, 250);
        bad(21, 5, 255);
        fine(21, 0, 4);
        bad(22, 3, 255);
        fine(22, 0, 2);
        bad(23, 0, 4, 255);
        fine(23, 1, 3);
        bad(24, 3, 255);
        fine(24, 0, 2);
        bad(25, 3, 255);
        bad(29, 3, 255);
    }

    private static void methodBytes() {
        bad(40, 0, 3);
        bad(41, 7);
        bad(41, 32);
        bad(34, 5, 254);
        bad(35, 5, 254);
        fine(35, 3);
        bad(36, 2);
        fine(36, 3);
        bad(49, 0);
        fine(50, 9, 8);
        bad(51, 2);
        bad(52, 0, 1, 3, 5);
        bad(53, 0, 2, 4);
        bad(54, 0, 1, 2, 4);
        bad(55, 0, 1, 3, 255);
        bad(56, 2);
    }

    private static void tooShort() {
        int[] all = sample();
        ByteProcessor right = new ByteProcessor(2, 8, 16, 0);
        Images.feed(right, all);
        CHECK.same("the sample's FORM", right.load() == 1 ? right.fault(1) : -1, -1);
        for (int n = 0; n < all.length; n++) {
            int[] part = java.util.Arrays.copyOf(all, n);
            CHECK.same("ends at " + n, wrongByte(part), n);
        }
        for (int more = 1; more < 4; more++) {
            CHECK.same("goes on", wrongByte(java.util.Arrays.copyOf(all, all.length + more)), all.length);
        }
        CHECK.same("an empty tape", wrongByte(new int[0]), 0);
    }

    /** What a class above has not, or has as STATIC, or another NAME, may be other. */
    private static void overriding() {
        int[] one = {0};
        int[] none = {};
        Images free = new Images().klass(255).klass(0, 0).klass(0).klass(2)
            .method(2, 3, 1, one, 255, 1, RET)
            .method(3, 3, 0, none, 1, 1, RET_NULL);
        CHECK.same("a STATIC one is not overridden", free.loadInto(new ByteProcessor(2, 8, 16, 0)), 0);
        Images covers = new Images().klass(255).klass(0, 0).klass(0).klass(2)
            .method(2, 3, 0, one, 255, 2, RET)
            .method(3, 3, 1, none, 255, 0, RET);
        CHECK.same("a STATIC one overrides none", covers.loadInto(new ByteProcessor(2, 8, 16, 0)), 0);
        Images aside = new Images().klass(255).klass(0, 0).klass(0)
            .method(1, 3, 0, one, 255, 2, RET)
            .method(2, 3, 0, none, 255, 1, RET);
        CHECK.same("a class aside is not above", aside.loadInto(new ByteProcessor(2, 8, 16, 0)), 0);
        Images behind = new Images().klass(255).klass(0, 0).klass(0).klass(2)
            .method(0, 3, 0, one, 255, 2, RET)
            .method(2, 3, 1, none, 255, 0, RET)
            .method(3, 3, 0, none, 255, 1, RET);
        ByteProcessor x = new ByteProcessor(2, 8, 16, 0);
        CHECK.same("behind a STATIC one the one above it is overridden", behind.loadInto(x), 1);
        CHECK.same("its P", x.fault(1), behind.bytes().length - 6);
        Images result = new Images().klass(255).klass(0, 0)
            .method(0, 3, 0, none, 255, 1, RET)
            .method(1, 3, 0, none, 0, 1, RET_0);
        CHECK.same("another RESULT", result.loadInto(x), 1);
        CHECK.same("at the RESULT", x.fault(1), result.bytes().length - 7);
        Images second = new Images().klass(255).klass(0, 0)
            .method(0, 3, 0, Images.p(0, 1), 255, 3, RET)
            .method(1, 3, 0, Images.p(0, 2), 255, 3, RET);
        CHECK.same("another TYPE", second.loadInto(x), 1);
        CHECK.same("at the TYPE", x.fault(1), second.bytes().length - 6);
    }

    private static void sixteenClasses() {
        Images i = new Images().klass(255).klass(0, 0, 1, 2, 3, 4, 17);
        for (int c = 2; c < 16; c++) {
            i.klass(c - 1, 0, 1, 17, 2, 16, 0);
        }
        ByteProcessor x = i.main(0, Images.NO_PARAMS, Images.NO, 0, RET).loaded();
        CHECK.same("classes", x.look(24), 16);
        CHECK.same("own", x.klass(15, 1), 6);
        CHECK.same("all", x.klass(15, 2), 90);
        CHECK.same("the first of all", x.klass(15, 3), 0);
        CHECK.same("class 1's last", x.klass(15, 3 + 5), 17);
        CHECK.same("the 89th", x.klass(15, 3 + 88), 16);
        CHECK.same("the 90th", x.klass(15, 3 + 89), 0);
        CHECK.same("no more", x.klass(15, 3 + 90), -1);
        CHECK.same("of class 14", x.klass(14, 3 + 84), -1);
        CHECK.same("SUPER", x.klass(15, 0), 14);
        CHECK.same("no class 16", x.klass(16, 0), -1);
    }

    private static void manyMethods() {
        Images i = Images.plain();
        for (int m = 0; m < 48; m++) {
            i.method(m / 32, m % 32, m % 2, Images.NO_PARAMS, 255, 1 + m % 20, RET);
        }
        ByteProcessor x = i.loaded();
        CHECK.same("methods", x.look(25), 48);
        CHECK.same("its NAME", x.method(47, 1), 15);
        CHECK.same("its CLASS", x.method(47, 0), 1);
        CHECK.same("its LOCALS", x.method(47, 5), 8);
        CHECK.same("no 48th", x.method(48, 0), -1);
        CHECK.same("own one in the table", x.table(1, 2), 34);
        CHECK.same("of the class above", x.table(1, 20), 20);
        CHECK.same("STATIC ones are in none", x.table(1, 21), -1);
        CHECK.same("in class 0", x.table(0, 30), 30);
        CHECK.same("NAME 32", x.table(0, 32), -1);
        CHECK.same("NAME -1", x.table(0, -1), -1);
        CHECK.same("class 2", x.table(2, 0), -1);
        CHECK.same("class -1", x.table(-1, 0), -1);
    }

    private static void told() {
        Images i = new Images().klass(255).klass(0, 0, 3).klass(0, 1).klass(2, 4, 0)
            .method(0, 31, 1, Images.p(0, 1, 2, 3, 4), 1, 6, RET_NULL)
            .method(2, 4, 0, Images.p(0), 0, 2, RET_0, new int[] {0, 3, 2, 1}, new int[] {1, 2, 2, 3})
            .method(3, 4, 0, Images.p(0), 0, 9, Images.c(Images.PUSH, 0, Images.RETV, Images.POP));
        ByteProcessor x = new ByteProcessor(2, 8, 16, 0);
        CHECK.same("load", i.loadInto(x), 0);
        CHECK.all("method 0", tellAll(x, 0), 0, 31, 1, 5, 1, 6, 2, 0, 2, 2);
        CHECK.all("method 1", tellAll(x, 1), 2, 4, 0, 1, 0, 2, 3, 2, 2, 2);
        CHECK.all("method 2", tellAll(x, 2), 3, 4, 0, 1, 0, 9, 4, 0, 2, 2);
        CHECK.same("what 10", x.method(0, 10), -1);
        CHECK.same("what -1", x.method(0, -1), -1);
        CHECK.same("method 3", x.method(3, 0), -1);
        CHECK.same("SUPER of 0", x.klass(0, 0), -1);
        CHECK.same("SUPER of 1", x.klass(1, 0), 0);
        CHECK.same("SUPER of 3", x.klass(3, 0), 2);
        CHECK.same("own of 3", x.klass(3, 1), 2);
        CHECK.same("all of 3", x.klass(3, 2), 3);
        CHECK.same("TYPE 0 of 3", x.klass(3, 3), 1);
        CHECK.same("TYPE 1 of 3", x.klass(3, 4), 4);
        CHECK.same("TYPE 2 of 3", x.klass(3, 5), 0);
        CHECK.same("TYPE 3 of 3", x.klass(3, 6), -1);
        CHECK.same("klass what -1", x.klass(3, -1), -1);
        CHECK.same("class 4", x.klass(4, 1), -1);
        CHECK.same("table of 3", x.table(3, 4), 2);
        CHECK.same("table of 2", x.table(2, 4), 1);
        CHECK.same("table of 1", x.table(1, 4), -1);
        CHECK.same("STATIC one", x.table(0, 31), -1);
    }

    private static int[] tellAll(ByteProcessor x, int m) {
        int[] all = new int[10];
        for (int what = 0; what < 10; what++) {
            all[what] = x.method(m, what);
        }
        return all;
    }

    /** A wrong load leaves image, run, input and output as they were; a right one empties them and the tape. */
    private static void staysOrGoes() {
        Images i = Images.plain().main(0, Images.NO_PARAMS, 0, 0,
            Images.c(Images.IN, Images.OUT, Images.PUSH, 1, Images.ROW, Images.POP, Images.JUMP, 0));
        ByteProcessor x = i.loaded(2, 8, 64, 0);
        CHECK.same("the tape is empty", x.look(26), 0);
        x.input(5);
        x.input(6);
        x.begin(0, 0, 0);
        x.go(9);
        long cycles = x.cycles();
        Images.feed(x, 202, 254, 3, 1);
        CHECK.same("FORM", x.load(), 1);
        CHECK.same("answer", x.fault(0), 1);
        CHECK.same("byte", x.fault(1), 3);
        CHECK.same("tape", x.look(26), 4);
        Images.plain().main(0, Images.NO_PARAMS, 0, 0, RET).loadInto(x);
        CHECK.same("answer", x.fault(0), 2);
        CHECK.same("byte", x.fault(1), -1);
        CHECK.same("method", x.fault(2), 0);
        CHECK.same("why", x.fault(3), 5);
        CHECK.same("where", x.fault(4), 0);
        CHECK.same("tape", x.look(26), 18);
        CHECK.same("it runs", x.look(0), 1);
        CHECK.same("its cycles", x.cycles(), cycles);
        CHECK.same("its image", x.method(0, 6), 8);
        CHECK.same("its type", x.type(0, 1, 100), 0);
        CHECK.same("its output", x.out(1), 6);
        CHECK.same("its input", x.look(21), 2);
        CHECK.same("its handles", x.look(19), 1);
        x.go(1);
        CHECK.same("it goes on", x.look(2), 10);
        CHECK.same("load again", x.load(), 2);
        Images.plain().main(3, Images.NO_PARAMS, 255, 0, RET).loadInto(x);
        CHECK.same("answer", x.fault(0), 0);
        for (int what = 1; what <= 5; what++) {
            CHECK.same("fault " + what, x.fault(what), -1);
        }
        for (int what = 0; what <= 23; what++) {
            CHECK.same("look " + what, x.look(what), what >= 3 && what <= 5 ? -1 : 0);
        }
        CHECK.same("handles", x.handle(1, 0), -1);
        CHECK.same("cache", x.cached(0), -1);
        CHECK.same("cycles", x.cycles(), -1);
        CHECK.same("another image", x.method(0, 1), 3);
        CHECK.same("load of an empty tape", x.load(), 1);
        CHECK.same("wrong at 0", x.fault(1), 0);
        CHECK.same("the image stays", x.method(0, 1), 3);
    }

    public static void main(String[] args) {
        bytes();
        methodBytes();
        tooShort();
        overriding();
        sixteenClasses();
        manyMethods();
        told();
        staysOrGoes();
        CHECK.end();
    }
}
