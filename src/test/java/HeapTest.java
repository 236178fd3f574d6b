import java.util.NoSuchElementException;

/** Promises 13, 16, 17 and 20: handles, their words, and collections step by step. */
public final class HeapTest extends Ops {
    private static final Check CHECK = new Check("HeapTest");
    private static final int WHITE = 0;
    private static final int GREY = 1;
    private static final int BLACK = 2;

    private HeapTest() {
    }

    /** Class 2 has an int, a reference to class 2, a row. */
    private static Images classes() {
        return new Images().klass(NO).klass(0, 0).klass(0, 0, 4, 1);
    }

    private static void heap(ByteProcessor x, String what, int used, int top, int left, int count, int space) {
        CHECK.same(what + ": USED", x.look(16), used);
        CHECK.same(what + ": TOP", x.look(17), top);
        CHECK.same(what + ": LEFT", x.look(18), left);
        CHECK.same(what + ": HANDLES", x.look(19), count);
        CHECK.same(what + ": SPACE", x.look(23), space);
    }

    private static void handle(ByteProcessor x, String what, int h, int... want) {
        int[] got = new int[5];
        for (int i = 0; i < 5; i++) {
            got[i] = x.handle(h, i);
        }
        CHECK.all(what + ", handle " + h, got, want);
    }

    private static void handles() {
        ByteProcessor x = classes().main(0, NO_PARAMS, NO, 3, c(
            PUSH, 3, ROW, STORE, 0, NEW, 2, STORE, 1, NEW, 0, STORE, 2, NEW, 1, POP,
            LOAD, 0, PUSH, 1, PUSH, 9, PUTAT, RET)).loaded(2, 8, 64, 0);
        x.begin(0, 0, 0);
        handle(x, "free", 1, -1, -1, -1, -1, -1);
        x.go(20);
        handle(x, "row", 1, -2, 3, 0, 0, BLACK);
        handle(x, "object", 2, 2, 3, 3, 0, BLACK);
        handle(x, "without words", 3, 0, 0, 6, 0, BLACK);
        handle(x, "trap's class", 4, 1, 1, 6, 0, BLACK);
        handle(x, "free", 5, -1, -1, -1, -1, -1);
        handle(x, "none", 0, -1, -1, -1, -1, -1);
        handle(x, "none", 61, -1, -1, -1, -1, -1);
        handle(x, "none", -1, -1, -1, -1, -1, -1);
        CHECK.same("what 5", x.handle(1, 5), -1);
        CHECK.same("what -1", x.handle(1, -1), -1);
        CHECK.same("word", x.word(1, 1), 9);
        CHECK.same("null", x.word(2, 1), 0);
        CHECK.thrown("word 3", NoSuchElementException.class, () -> x.word(1, 3));
        CHECK.thrown("word -1", NoSuchElementException.class, () -> x.word(1, -1));
        CHECK.thrown("no words", NoSuchElementException.class, () -> x.word(3, 0));
        CHECK.thrown("free", NoSuchElementException.class, () -> x.word(5, 0));
        CHECK.thrown("handle 0", NoSuchElementException.class, () -> x.word(0, 0));
        CHECK.thrown("handle 61", NoSuchElementException.class, () -> x.word(61, 0));
        heap(x, "at the end", 7, 0, 0, 4, 0);
        CHECK.no("collect behind the end", x.collect());
    }

    /** Ahead: 1 (local 0, its field 1 is 2), 2, 3 (a row that nothing has), 4 (local 2, no words). */
    private static ByteProcessor four(int w, int pace) {
        ByteProcessor x = classes().main(0, p(0), NO, 3, c(
            NEW, 2, STORE, 1,                   // 0
            LOAD, 1, NEW, 2, PUT, 2, 1,         // 4
            PUSH, 3, ROW, POP,                  // 11
            NEW, 0, STORE, 2,                   // 15
            PUSH, 1, POP, JUMP, 19))            // 19 21 22
            .loaded(2, 8, w, pace);
        x.begin(0, 0, 0);
        x.go(10);
        return x;
    }

    private static void stepByStep() {
        ByteProcessor x = four(64, 1);
        heap(x, "ahead", 9, 0, 0, 4, 0);
        CHECK.same("none goes on", x.look(15), 0);
        CHECK.yes("collect", x.collect());
        CHECK.no("collect again", x.collect());
        CHECK.same("one goes on", x.look(15), 1);
        CHECK.same("one began", x.look(14), 1);
        CHECK.same("no steps", x.look(13), 0);
        heap(x, "begun", 9, 0, 9, 4, 0);
        colours(x, "begun", GREY, WHITE, WHITE, GREY);
        x.go(1);
        heap(x, "1", 9, 3, 9, 4, 0);
        colours(x, "1", GREY, WHITE, WHITE, GREY);
        handle(x, "1", 1, 2, 3, 0, 0, GREY);
        x.go(1);
        heap(x, "2", 9, 3, 8, 4, 0);
        x.go(1);
        heap(x, "3", 9, 3, 7, 4, 0);
        colours(x, "3", GREY, GREY, WHITE, GREY);
        x.go(1);
        heap(x, "4", 9, 3, 6, 4, 0);
        handle(x, "4", 1, 2, 3, 0, 1, BLACK);
        colours(x, "4", BLACK, GREY, WHITE, GREY);
        x.go(1);
        heap(x, "5", 9, 3, 6, 4, 0);
        handle(x, "5, no words", 4, 0, 0, 3, 1, BLACK);
        colours(x, "5", BLACK, GREY, WHITE, BLACK);
        x.go(1);
        heap(x, "6", 9, 6, 6, 4, 0);
        x.go(3);
        heap(x, "9", 9, 6, 3, 4, 0);
        handle(x, "9", 2, 2, 3, 3, 1, BLACK);
        handle(x, "9", 3, -2, 3, 6, 0, WHITE);
        CHECK.same("9 steps", x.look(13), 9);
        x.go(1);
        heap(x, "ended", 6, 0, 0, 3, 1);
        CHECK.same("10 steps", x.look(13), 10);
        CHECK.same("none goes on", x.look(15), 0);
        handle(x, "freed", 3, -1, -1, -1, -1, -1);
        handle(x, "1 at the end", 1, 2, 3, 0, 1, BLACK);
        CHECK.same("its reference", x.word(1, 1), 2);
        x.go(5);
        CHECK.same("no more steps", x.look(13), 10);
        CHECK.yes("collect anew", x.collect());
        colours(x, "anew", GREY, WHITE, -1, GREY);
    }

    private static void colours(ByteProcessor x, String what, int... want) {
        int[] got = new int[want.length];
        for (int i = 0; i < want.length; i++) {
            got[i] = x.handle(i + 1, 4);
        }
        CHECK.all(what + ": colours", got, want);
    }

    /** Pace 3: three steps behind each instruction, each a cycle, and none behind the one that ends the run. */
    private static void pace() {
        ByteProcessor x = four(64, 3);
        x.collect();
        long before = x.cycles();
        x.go(1);
        CHECK.same("cycles of PUSH and three steps", x.cycles() - before, 1 + 3);
        CHECK.same("steps", x.look(13), 3);
        x.go(3);
        CHECK.same("it ended at the tenth", x.look(13), 10);
        ByteProcessor y = classes().main(0, NO_PARAMS, NO, 1, c(NEW, 2, STORE, 0, RET)).loaded(2, 8, 64, 3);
        y.begin(0, 0, 0);
        y.go(2);
        y.collect();
        y.go(1);
        CHECK.same("returned", y.look(0), 2);
        CHECK.same("no steps", y.look(13), 0);
        CHECK.same("it goes on", y.look(15), 1);
        CHECK.same("LEFT", y.look(18), 3);
        CHECK.same("as it is", y.handle(1, 4), GREY);
        ByteProcessor z = four(64, 0);
        z.collect();
        z.go(100);
        CHECK.same("pace 0", z.look(13), 0);
    }

    /** What was there is GREY ahead of a PUT of a reference, be the object copied or not. */
    private static void barrier() {
        ByteProcessor x = classes().main(0, p(0), NO, 3, c(
            NEW, 2, STORE, 1, LOAD, 1, NEW, 2, PUT, 2, 1,   // 1 has 2
            NEW, 2, STORE, 2, LOAD, 2, NEW, 2, PUT, 2, 1,   // 3 has 4
            PUSH, 0, POP,                                   // collect() here
            LOAD, 2, NULL, PUT, 2, 1,                       // 4 is GREY now
            LOAD, 1, PUSH, 5, PUT, 2, 0,
            LOAD, 1, LOAD, 1, PUT, 2, 1,                    // 2 is GREY now
            PUSH, 0, POP, JUMP, 45)).loaded(2, 16, 64, 0);
        x.begin(0, 0, 0);
        x.go(12);
        x.collect();
        colours(x, "begun", GREY, WHITE, GREY, WHITE);
        x.go(2);
        colours(x, "ahead of it", GREY, WHITE, GREY, WHITE);
        x.go(1);
        colours(x, "PUT null", GREY, WHITE, GREY, GREY);
        CHECK.same("null", x.word(3, 1), 0);
        x.go(3);
        colours(x, "PUT an int", GREY, WHITE, GREY, GREY);
        x.go(3);
        colours(x, "PUT another", GREY, GREY, GREY, GREY);
        CHECK.same("another", x.word(1, 1), 1);
    }

    /** The order of the GREY ones: those of the PILE from word 0 on, each once, then as they are met. */
    private static void order() {
        ByteProcessor x = classes().main(0, NO_PARAMS, NO, 4, c(
            NEW, 2, STORE, 3, NEW, 2, STORE, 0, PUSH, 1, ROW, STORE, 1, LOAD, 3, NEW, 2, PUT, 2, 1,
            LOAD, 0, LOAD, 3, PUSH, 0, POP, JUMP, 24)).loaded(2, 16, 64, 1);
        x.begin(0, 0, 0);
        x.go(12);
        x.collect();
        // 2 (local 0), 3 (local 1), 1 (local 3), then 4, which 1 has: their places in the other SPACE tell the order.
        x.go(30);
        handle(x, "first", 2, 2, 3, 0, 1, BLACK);
        handle(x, "second", 3, -2, 1, 3, 1, BLACK);
        handle(x, "third", 1, 2, 3, 4, 1, BLACK);
        handle(x, "fourth", 4, 2, 3, 7, 1, BLACK);
        CHECK.same("steps", x.look(13), 4 + 10 + 1);
    }

    /** A PUT and a PUT AT to words that are copied already go to both copies. */
    private static void bothCopies() {
        for (int pace = 1; pace <= 8; pace++) {
            ByteProcessor z = classes().main(0, NO_PARAMS, NO, 2, c(
                PUSH, 9, ROW, STORE, 0, PUSH, 0, POP,
                LOAD, 0, PUSH, 0, PUSH, 7, PUTAT,
                LOAD, 0, PUSH, 8, PUSH, 8, PUTAT,
                LOAD, 0, PUSH, 3, PUSH, 9, PUTAT,
                PUSH, 0, POP, JUMP, 29)).loaded(2, 16, 64, pace);
            z.begin(0, 0, 0);
            z.go(3);
            z.collect();
            for (int i = 0; i < 40; i++) {
                z.go(1);
                if (i >= 14) {
                    CHECK.same("word 0, pace " + pace, z.word(1, 0), 7);
                    CHECK.same("word 8, pace " + pace, z.word(1, 8), 8);
                    CHECK.same("word 3, pace " + pace, z.word(1, 3), 9);
                }
            }
            CHECK.same("in the other SPACE", z.handle(1, 3), 1);
        }
    }

    private static void fieldsBothCopies() {
        ByteProcessor x = classes().main(0, NO_PARAMS, NO, 2, c(
            NEW, 2, STORE, 0, LOAD, 0, PUSH, 77, PUT, 2, 0, PUSH, 0, POP, JUMP, 11)).loaded(2, 16, 64, 1);
        x.begin(0, 0, 0);
        x.go(2);
        x.collect();
        x.go(2);
        CHECK.same("one word is copied", x.look(18), 2);
        x.go(1);
        CHECK.same("the PUT", x.word(1, 0), 77);
        x.go(1);
        CHECK.same("it lies in the other SPACE", x.handle(1, 3), 1);
        CHECK.same("the PUT went to both", x.word(1, 0), 77);
    }

    /** While one goes on, what is made is BLACK and lies at TOP of the other SPACE. */
    private static void madeWhile() {
        ByteProcessor x = classes().main(0, NO_PARAMS, NO, 3, c(
            PUSH, 9, ROW, STORE, 0,             // 0
            PUSH, 0, POP,                       // 5
            PUSH, 2, ROW, STORE, 1,             // 8
            NEW, 0, POP,                        // 13
            PUSH, 5, ROW, STORE, 2,             // 16
            PUSH, 6, ROW, STORE, 2,             // 21
            RET)).loaded(2, 16, 20, 0);
        x.begin(0, 0, 0);
        x.go(3);
        CHECK.same("9 is not above 10", x.look(14), 0);
        x.collect();
        x.go(5);
        heap(x, "made", 9, 2, 9, 2, 0);
        handle(x, "made", 2, -2, 2, 0, 1, BLACK);
        CHECK.same("none more began", x.look(14), 1);
        x.go(2);
        handle(x, "no words", 3, 0, 0, 2, 1, BLACK);
        x.go(2);
        heap(x, "TOP 2, LEFT 9, 5: 16 is at most 20", 9, 7, 9, 4, 0);
        handle(x, "at 2", 4, -2, 5, 2, 1, BLACK);
        x.go(2);
        CHECK.same("it is not yet ended", x.look(13), 0);
        long before = x.cycles();
        x.go(1);
        // TOP 7, LEFT 9, 6: 22 is above 20: the collection is ended (1 + 9 + 1 steps), then 16 are used: none is there still;
        // another one begins and is ended: 1 with its nine words, 2 with its two and 4, which local 2 has, with its five;
        // it frees 3 alone, so 16 stay used, and the run ends.
        CHECK.same("ROOM", x.look(0), 4);
        CHECK.same("two began", x.look(14), 2);
        CHECK.same("steps", x.look(13), 11 + 3 + 16 + 1);
        CHECK.same("cycles", x.cycles() - before, 9 + 31);
        heap(x, "ended", 16, 0, 0, 3, 0);
        handle(x, "4", 4, -2, 5, 11, 0, BLACK);
        CHECK.same("result", x.look(1), 0);
        CHECK.same("done", x.look(2), 15);
        CHECK.same("go", x.go(4), 0);
    }

    /** One begins behind an instruction that made something when USED is above the half, ahead of its steps. */
    private static void begins() {
        for (int size = 8; size <= 10; size++) {
            ByteProcessor x = classes().main(0, p(0), NO, 2, c(LOAD, 0, ROW, STORE, 1, PUSH, 0, POP, RET)).loaded(2, 16, 17, 1);
            x.begin(0, size, 0);
            x.go(2);
            CHECK.same("size " + size + " began", x.look(14), size > 8 ? 1 : 0);
            CHECK.same("size " + size + " steps", x.look(13), size > 8 ? 1 : 0);
            CHECK.same("size " + size + " TOP", x.look(17), size > 8 ? size : 0);
            x.go(1);
            CHECK.same("size " + size + " steps behind", x.look(13), size > 8 ? 2 : 0);
        }
        // The second one is ended by its steps; an instruction that made nothing begins none, though USED is above.
        ByteProcessor x = classes().main(0, p(0), NO, 2, c(LOAD, 0, ROW, STORE, 1, PUSH, 0, POP, JUMP, 5)).loaded(2, 16, 16, 8);
        x.begin(0, 9, 0);
        x.go(50);
        CHECK.same("one", x.look(14), 1);
        CHECK.same("ended", x.look(15), 0);
        CHECK.same("9 are used", x.look(16), 9);
    }

    /** A trap makes something, too; one that ends the run begins none. */
    private static void trapBegins() {
        Images caught = classes().main(0, NO_PARAMS, NO, 2,
            c(PUSH, 8, ROW, STORE, 0, NULL, SIZE, POP, RET, POP, RET), new int[] {6, 7, 9, 1});
        ByteProcessor x = caught.loaded(2, 16, 16, 0);
        x.begin(0, 0, 0);
        x.go(5);
        CHECK.same("caught", x.look(3), 0);
        CHECK.same("9 are above 8", x.look(14), 1);
        CHECK.same("the trap's object is of the PILE", x.handle(2, 4), GREY);
        Images free = classes().main(0, NO_PARAMS, NO, 2, c(PUSH, 8, ROW, STORE, 0, NULL, SIZE, POP, RET));
        x = free.loaded(2, 16, 16, 0);
        x.begin(0, 0, 0);
        x.go(5);
        CHECK.same("thrown", x.look(0), 3);
        CHECK.same("none began", x.look(14), 0);
        Images full = classes().main(0, NO_PARAMS, NO, 2,
            c(PUSH, 16, ROW, STORE, 0, NULL, SIZE, POP, RET, POP, RET), new int[] {6, 7, 9, 1});
        x = full.loaded(2, 16, 16, 0);
        x.begin(0, 0, 0);
        x.go(5);
        CHECK.same("no room for a trap", x.look(0), 4);
    }

    /** The PILE's words that are no REFERENCES keep nothing, those that are keep what they are. */
    private static void roots() {
        ByteProcessor x = classes().main(0, p(0), NO, 2, c(
            NEW, 2, POP, NEW, 2, STORE, 1, NEW, 2, NULL, PUSH, 0, POP, JUMP, 10)).loaded(2, 16, 64, 8);
        x.begin(0, 1, 0);
        x.go(6);
        x.collect();
        colours(x, "an int 1 is no reference", WHITE, GREY, GREY);
        x.go(10);
        CHECK.same("two stay", x.look(19), 2);
        handle(x, "1", 1, -1, -1, -1, -1, -1);
    }

    /** A row's words are no references either. */
    private static void rowWords() {
        ByteProcessor x = classes().main(0, NO_PARAMS, NO, 2, c(
            NEW, 2, POP, PUSH, 2, ROW, STORE, 0, LOAD, 0, PUSH, 0, PUSH, 1, PUTAT,
            PUSH, 0, POP, JUMP, 15)).loaded(2, 16, 64, 8);
        x.begin(0, 0, 0);
        x.go(9);
        x.collect();
        x.go(5);
        CHECK.same("the row alone", x.look(19), 1);
        CHECK.same("its word", x.word(2, 0), 1);
    }

    private static void sixtyHandles() {
        ByteProcessor x = classes().main(0, NO_PARAMS, NO, 1, c(NEW, 0, STORE, 0, JUMP, 0)).loaded(2, 16, 16, 0);
        x.begin(0, 0, 0);
        x.go(3 * 60);
        CHECK.same("60", x.look(19), 60);
        CHECK.same("none began", x.look(14), 0);
        CHECK.same("the last", x.pile(0, 0), 60);
        x.go(2);
        CHECK.same("one began and ended", x.look(14), 1);
        CHECK.same("60 is kept, 1 is the least free", x.look(19), 2);
        CHECK.same("1", x.pile(0, 0), 1);
        CHECK.same("its steps", x.look(13), 2);
        handle(x, "60", 60, 0, 0, 0, 1, BLACK);
        ByteProcessor y = new Images().klass(NO).klass(0, 0).klass(0, 4).main(0, NO_PARAMS, NO, 2,
            c(NULL, STORE, 0, NEW, 2, STORE, 1, LOAD, 1, LOAD, 0, PUT, 2, 0, LOAD, 1, STORE, 0, JUMP, 3))
            .loaded(2, 16, 256, 0);
        y.begin(0, 0, 0);
        y.go(100000);
        CHECK.same("ROOM", y.look(0), 4);
        CHECK.same("all 60", y.look(19), 60);
        CHECK.same("done", y.look(2), 2 + 8 * 60 + 1);
    }

    /** Whatever the cache, the RAM, the collector's pace: what an image does is the same. */
    private static void sameOutput() {
        int compared = 0;
        for (int seed = 0; seed < 60; seed++) {
            int[] bytes = new ProgramMaker(seed).make();
            ByteProcessor first = null;
            for (int pace = 0; pace <= 8; pace++) {
                ByteProcessor x = new ByteProcessor(2 + pace * 5 % 15, 8 + pace * 23 % 57, 48, pace);
                Images.feed(x, bytes);
                if (x.load() != 0 || !x.begin(0, 3, seed)) {
                    continue;
                }
                x.go(3000);
                first = first == null ? x : first;
                CHECK.same("seed " + seed + ": ended", x.look(0), first.look(0));
                CHECK.same("seed " + seed + ": done", x.look(2), first.look(2));
                CHECK.same("seed " + seed + ": numbers", x.look(20), first.look(20));
                for (int i = 0; i < x.look(20); i++) {
                    CHECK.same("seed " + seed + ": number " + i, x.out(i), first.out(i));
                    compared++;
                }
            }
        }
        CHECK.yes("some are compared", compared > 500);
    }

    /** Only what a field's TYPE says is a REFERENCE: an int that is a HANDLE's number keeps nothing, a ROW's words neither. */
    private static void wordsOfEachType() {
        ByteProcessor x = new Images().klass(NO).klass(0, 0).klass(0, 0, 1, 5, 2).klass(2, 0, 1)
            .main(0, NO_PARAMS, NO, 1, c(
                NEW, 3, STORE, 0,                                   // 1: of class 3, six words
                LOAD, 0, PUSH, 7, PUT, 2, 0,                        // its int is 7
                LOAD, 0, PUSH, 2, ROW, PUT, 2, 1,                   // 2: a ROW
                LOAD, 0, NEW, 3, PUT, 2, 2,                         // 3: of class 3
                LOAD, 0, NEW, 0, PUT, 2, 3,                         // 4: no words
                LOAD, 0, PUSH, 8, PUT, 3, 4,                        // its other int is 8
                LOAD, 0, PUSH, 1, ROW, PUT, 3, 5,                   // 5: a ROW
                LOAD, 0, GET, 3, 2, PUSH, 3, ROW, PUT, 3, 5,        // 6: a ROW that 3 has
                NEW, 1, POP, NEW, 1, POP, NEW, 1, POP,              // 7, 8, 9: nothing has them
                LOAD, 0, GET, 2, 1, PUSH, 1, PUSH, 9, PUTAT,        // a word of 2 is 9
                PUSH, 0, POP, JUMP, 78))
            .loaded(2, 32, 64, 1);
        x.begin(0, 0, 0);
        x.go(38);
        heap(x, "ahead", 6 + 2 + 6 + 0 + 1 + 3 + 3, 0, 0, 9, 0);
        x.collect();
        // 1 (1 + 6 steps), then 2, 3, 4 and 5 as its words have them (1 + 2, 1 + 6, 1, 1 + 1), 6, which 3 has (1 + 3), the end.
        x.go(7 + 3 + 7 + 1 + 2 + 4);
        colours(x, "all are copied", BLACK, BLACK, BLACK, BLACK, BLACK, BLACK, WHITE, WHITE, WHITE);
        heap(x, "all are copied", 21, 18, 3, 9, 0);
        x.go(1);
        heap(x, "at the end", 18, 0, 0, 6, 1);
        handle(x, "at the end", 1, 3, 6, 0, 1, BLACK);
        handle(x, "at the end", 2, -2, 2, 6, 1, BLACK);
        handle(x, "at the end", 3, 3, 6, 8, 1, BLACK);
        handle(x, "at the end", 4, 0, 0, 14, 1, BLACK);
        handle(x, "at the end", 5, -2, 1, 14, 1, BLACK);
        handle(x, "at the end", 6, -2, 3, 15, 1, BLACK);
        int[] words = new int[6];
        for (int i = 0; i < 6; i++) {
            words[i] = x.word(1, i);
        }
        CHECK.all("words of 1", words, 7, 2, 3, 4, 8, 5);
        CHECK.same("word of 2", x.word(2, 1), 9);
        CHECK.same("word of 3", x.word(3, 5), 6);
    }

    public static void main(String[] args) {
        handles();
        stepByStep();
        pace();
        barrier();
        order();
        bothCopies();
        fieldsBothCopies();
        madeWhile();
        begins();
        trapBegins();
        roots();
        rowWords();
        sixtyHandles();
        sameOutput();
        wordsOfEachType();
        CHECK.end();
    }
}
