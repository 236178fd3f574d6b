import java.util.NoSuchElementException;

/** Promises 1 to 3, 10 and 11, and what every call answers without an image, without a run and for wrong arguments. */
public final class FaceTest {
    private static final Check CHECK = new Check("FaceTest");
    private static final int[] ENDLESS = {Images.PUSH, 1, Images.POP, Images.JUMP, 0};

    private FaceTest() {
    }

    private static int blocks(int k) {
        // A method of k blocks is held by a cache that has at least as many.
        for (int n = 16; n >= 1; n--) {
            int[] code = new int[n * 16 > 250 ? 250 : n * 16];
            java.util.Arrays.fill(code, Images.RET);
            ByteProcessor x = Images.plain().main(0, Images.NO_PARAMS, Images.NO, 0, code).loaded(k, 8, 16, 0);
            x.begin(0, 0, 0);
            if (x.cached(0) == 0) {
                return n;
            }
        }
        return 0;
    }

    private static int words(int ram) {
        int[] code = new int[33];
        code[32] = Images.RET;
        for (int i = 0; i < 16; i++) {
            code[2 * i] = Images.PUSH;
        }
        int[] called = {Images.CALL, 1};
        int[] more = java.util.Arrays.copyOf(code, 35);
        System.arraycopy(called, 0, more, 32, 2);
        more[34] = Images.RET;
        ByteProcessor x = Images.plain().main(0, Images.NO_PARAMS, Images.NO, 20, more)
            .main(1, Images.NO_PARAMS, Images.NO, 20, code).loaded(16, ram, 16, 0);
        x.begin(0, 0, 0);
        x.go(33);
        return x.look(6) - x.look(7);
    }

    private static int space(int w) {
        for (int n = 0; n <= 300; n++) {
            ByteProcessor x = Images.plain()
                .main(0, Images.p(0), Images.NO, 1, Images.c(Images.LOAD, 0, Images.ROW, Images.POP, Images.RET))
                .loaded(2, 8, w, 0);
            x.begin(0, n, 0);
            x.go(10);
            if (x.look(0) == 4) {
                return n - 1;
            }
        }
        return -1;
    }

    private static int pace(int pace) {
        ByteProcessor x = Images.plain()
            .main(0, Images.NO_PARAMS, Images.NO, 1, Images.c(Images.PUSH, 40, Images.ROW, Images.STORE, 0,
                Images.PUSH, 0, Images.POP, Images.JUMP, 5))
            .loaded(2, 8, 256, pace);
        x.begin(0, 0, 0);
        x.go(3);
        x.collect();
        x.go(1);
        return x.look(13);
    }

    private static void limits() {
        CHECK.same("k 1", blocks(1), 2);
        CHECK.same("k -2147483648", blocks(Integer.MIN_VALUE), 2);
        CHECK.same("k 2", blocks(2), 2);
        CHECK.same("k 7", blocks(7), 7);
        CHECK.same("k 16", blocks(16), 16);
        CHECK.same("k 17", blocks(17), 16);
        CHECK.same("ram 7", words(7), 8);
        CHECK.same("ram -1", words(-1), 8);
        CHECK.same("ram 9", words(9), 9);
        CHECK.same("ram 62", words(62), 62);
        CHECK.same("w 15", space(15), 16);
        CHECK.same("w -9", space(-9), 16);
        CHECK.same("w 17", space(17), 17);
        CHECK.same("w 256", space(256), 256);
        CHECK.same("w 257", space(257), 256);
        CHECK.same("w 2147483647", space(Integer.MAX_VALUE), 256);
        CHECK.same("pace -1", pace(-1), 0);
        CHECK.same("pace 0", pace(0), 0);
        CHECK.same("pace 3", pace(3), 3);
        CHECK.same("pace 8", pace(8), 8);
        CHECK.same("pace 9", pace(9), 8);
    }

    /** RAM has 64 words at most: of a pile of 78 words 64 lie in it. */
    private static void widestRam() {
        int[] code = new int[35];
        for (int i = 0; i < 16; i++) {
            code[2 * i] = Images.PUSH;
        }
        code[32] = Images.CALL;
        code[33] = 1;
        code[34] = Images.RET;
        int[] called = code.clone();
        called[33] = 0;
        for (int ram : new int[] {64, 65, 1000}) {
            ByteProcessor x = Images.plain().main(0, Images.NO_PARAMS, Images.NO, 20, code)
                .main(1, Images.NO_PARAMS, Images.NO, 20, called).loaded(16, ram, 16, 0);
            x.begin(0, 0, 0);
            x.go(34);
            CHECK.same("words, ram " + ram, x.look(6), 39 + 39 + 23);
            CHECK.same("low, ram " + ram, x.look(7), 39 + 39 + 23 - 64);
        }
    }

    private static void tape() {
        ByteProcessor x = new ByteProcessor(2, 8, 16, 0);
        CHECK.same("end(0) of an empty tape", x.end(0), 0);
        CHECK.same("end(1) of an empty tape", x.end(1), -1);
        CHECK.same("end(-1)", x.end(-1), -1);
        CHECK.same("end(-2147483648)", x.end(Integer.MIN_VALUE), -1);
        for (int i = 1; i <= 200; i++) {
            CHECK.same("feed " + i, x.feed(i, -1, 0, 7, Integer.MIN_VALUE), 20 * i);
            CHECK.same("look(26)", x.look(26), 20 * i);
        }
        CHECK.same("feed beyond 4000", x.feed(0, 0, 0, 0, 0), -1);
        CHECK.same("it stays", x.look(26), 4000);
        CHECK.same("end(4001)", x.end(4001), -1);
        CHECK.same("it stays still", x.look(26), 4000);
        CHECK.same("end(3981)", x.end(3981), 3981);
        CHECK.same("feed to 4001", x.feed(0, 0, 0, 0, 0), -1);
        CHECK.same("3981 stay", x.look(26), 3981);
        CHECK.same("end(3982)", x.end(3982), -1);
        CHECK.same("end(3980)", x.end(3980), 3980);
        CHECK.same("feed to 4000", x.feed(0, 0, 0, 0, 0), 4000);
        CHECK.same("end(5)", x.end(5), 5);
        CHECK.same("feed behind five", x.feed(0, 0, 0, 0, 0), 25);
    }

    /** Of each int the highest byte comes first: the second one is where the FORM goes wrong. */
    private static void order() {
        ByteProcessor x = new ByteProcessor(2, 8, 16, 0);
        x.feed(0xCAFE0200, 0, 0, 0, 0);
        CHECK.same("load", x.load(), 1);
        CHECK.same("class 0 must have 255", x.fault(1), 3);
        x.end(0);
        x.feed(0xFECA0200, 0, 0, 0, 0);
        x.load();
        CHECK.same("254 ahead of 202", x.fault(1), 0);
        x.end(0);
        x.feed(0xCAFE02FF, 0x00000100, 0x01000001, 0x00FF0001, 0x00340000);
        CHECK.same("no tail", x.load(), 1);
        CHECK.same("the tail's first byte", x.fault(1), 18);
        x.end(18);
        CHECK.same("right", x.load(), 0);
    }

    private static void withoutImage() {
        ByteProcessor x = new ByteProcessor(4, 8, 16, 0);
        for (int what = -1; what <= 5; what++) {
            CHECK.same("fault", x.fault(what), -1);
            CHECK.same("klass", x.klass(0, what), -1);
            CHECK.same("method", x.method(0, what), -1);
            CHECK.same("handle", x.handle(1, what), -1);
            CHECK.same("table", x.table(what, what), -1);
            CHECK.same("type", x.type(0, 0, what), -1);
            CHECK.same("cached", x.cached(what), -1);
        }
        CHECK.no("input", x.input(1));
        CHECK.no("begin", x.begin(0, 0, 0));
        CHECK.no("collect", x.collect());
        CHECK.same("cycles", x.cycles(), -1);
        noRun(x);
        CHECK.same("look(24)", x.look(24), 0);
        CHECK.same("look(25)", x.look(25), 0);
        CHECK.same("look(26)", x.look(26), 0);
    }

    private static void noRun(ByteProcessor x) {
        for (int what = 0; what <= 23; what++) {
            CHECK.same("look(" + what + ") without a run", x.look(what), what >= 3 && what <= 5 ? -1 : 0);
        }
        CHECK.same("look(-1)", x.look(-1), -1);
        CHECK.same("look(27)", x.look(27), -1);
        CHECK.same("look(-2147483648)", x.look(Integer.MIN_VALUE), -1);
        CHECK.thrown("go(1)", IllegalStateException.class, () -> x.go(1));
        CHECK.thrown("go(100000)", IllegalStateException.class, () -> x.go(100000));
        CHECK.thrown("go(0)", IllegalArgumentException.class, () -> x.go(0));
        CHECK.thrown("go(-1)", IllegalArgumentException.class, () -> x.go(-1));
        CHECK.thrown("go(100001)", IllegalArgumentException.class, () -> x.go(100001));
        CHECK.thrown("pile", NoSuchElementException.class, () -> x.pile(0, 0));
        CHECK.thrown("word", NoSuchElementException.class, () -> x.word(1, 0));
        CHECK.thrown("out", NoSuchElementException.class, () -> x.out(0));
        CHECK.same("cycles without a run", x.cycles(), -1);
        CHECK.no("collect without a run", x.collect());
    }

    private static void inputs() {
        ByteProcessor x = Images.plain().main(0, Images.NO_PARAMS, Images.NO, 0,
            Images.c(Images.IN, Images.OUT, Images.JUMP, 0)).loaded();
        noRun(x);
        for (int i = 0; i < 64; i++) {
            CHECK.yes("input " + i, x.input(i * 1000003));
            CHECK.same("look(21)", x.look(21), i + 1);
        }
        CHECK.no("input beyond 64", x.input(5));
        CHECK.same("64 stay", x.look(21), 64);
        for (int round = 0; round < 2; round++) {
            x.begin(0, 0, 0);
            CHECK.same("none taken", x.look(22), 0);
            x.go(9);
            CHECK.same("three taken", x.look(22), 3);
            x.go(10000);
            CHECK.same("thrown at the end", x.look(0), 3);
            CHECK.same("all taken", x.look(22), 64);
            CHECK.same("all put out", x.look(20), 64);
            for (int i = 0; i < 64; i++) {
                CHECK.same("out " + i, x.out(i), i * 1000003);
            }
        }
        Images.plain().main(0, Images.NO_PARAMS, Images.NO, 0, ENDLESS).loadInto(x);
        CHECK.same("a load empties the input", x.look(21), 0);
        noRun(x);
    }

    /** A number that comes while it runs is taken, too. */
    private static void lateInput() {
        ByteProcessor x = Images.plain().main(0, Images.NO_PARAMS, 0, 0,
            Images.c(Images.PUSH, 9, Images.POP, Images.IN, Images.RETV)).loaded();
        x.begin(0, 0, 0);
        x.go(2);
        CHECK.yes("input", x.input(-77));
        x.go(5);
        CHECK.same("returned", x.look(1), -77);
    }

    private static void begins() {
        ByteProcessor x = new Images().klass(Images.NO).klass(0, 0)
            .main(0, Images.NO_PARAMS, Images.NO, 0, ENDLESS)
            .main(1, Images.p(0), 0, 3, Images.c(Images.LOAD, 0, Images.RETV))
            .main(2, Images.p(0, 0), 0, 2, Images.c(Images.LOAD, 0, Images.LOAD, 1, Images.SUB, Images.RETV))
            .main(3, Images.p(0, 0, 0), Images.NO, 3, ENDLESS)
            .main(4, Images.p(0, 1), Images.NO, 2, ENDLESS)
            .main(5, Images.p(2), Images.NO, 1, ENDLESS)
            .method(0, 6, 0, Images.NO_PARAMS, Images.NO, 1, ENDLESS).loaded();
        CHECK.no("no such method", x.begin(7, 0, 0));
        CHECK.no("method -1", x.begin(-1, 0, 0));
        CHECK.no("three parameters", x.begin(3, 0, 0));
        CHECK.no("a row", x.begin(4, 0, 0));
        CHECK.no("an object", x.begin(5, 0, 0));
        CHECK.no("not static", x.begin(6, 0, 0));
        CHECK.same("nothing happened", x.look(0), 0);
        CHECK.yes("begin 1", x.begin(1, 5, 6));
        CHECK.same("its words", x.look(6), 6);
        int[] want = {5, 0, 0, -1, 0, 0};
        for (int i = 0; i < 6; i++) {
            CHECK.same("word " + i, x.pile(i, 0), want[i]);
            CHECK.same("kind " + i, x.pile(i, 1), 0);
        }
        CHECK.same("method", x.look(3), 1);
        CHECK.same("place", x.look(4), 0);
        CHECK.same("base", x.look(5), 0);
        CHECK.no("begin 3 stays false", x.begin(3, 0, 0));
        CHECK.same("it runs still", x.look(3), 1);
        CHECK.yes("begin 2", x.begin(2, 5, 6));
        CHECK.same("runs", x.look(0), 1);
        CHECK.same("go", x.go(100), 4);
        CHECK.same("5 - 6", x.look(1), -1);
        CHECK.same("go behind the end", x.go(100), 0);
        CHECK.same("done", x.look(2), 4);
    }

    private static void beginsAnew() {
        ByteProcessor x = Images.plain().main(0, Images.NO_PARAMS, Images.NO, 1,
            Images.c(Images.PUSH, 7, Images.DUP, Images.OUT, Images.ROW, Images.STORE, 0, Images.JUMP, 0))
            .loaded(2, 8, 16, 1);
        int[] first = new int[27];
        for (int round = 0; round < 3; round++) {
            CHECK.yes("begin", x.begin(0, 0, 0));
            CHECK.same("no handles", x.look(19), 0);
            CHECK.same("no handle 1", x.handle(1, 0), -1);
            CHECK.same("cycles of the miss", x.cycles(), 7);
            x.go(100 + 10 * round);
            CHECK.same("100 done", x.look(2), 100 + 10 * round);
            x.begin(0, 0, 0);
            x.go(77);
            for (int what = 0; what < 27; what++) {
                if (round == 0) {
                    first[what] = x.look(what);
                }
                CHECK.same("round " + round + " look " + what, x.look(what), first[what]);
            }
        }
    }

    public static void main(String[] args) {
        CHECK.same("NONE", ByteProcessor.NONE, -1);
        limits();
        widestRam();
        tape();
        order();
        withoutImage();
        inputs();
        lateInput();
        begins();
        beginsAnew();
        CHECK.end();
    }
}
