import java.util.NoSuchElementException;

/** Every call that the document refuses, in every state of a run: it answers so, and leaves all as it was. */
public final class RefusedTest extends Ops {
    private static final Check CHECK = new Check("RefusedTest");
    private static final int MIN = Integer.MIN_VALUE;
    private static final int MAX = Integer.MAX_VALUE;
    private static final int[] EDGES = {MIN, MIN + 1, -1000, -3, -2, -1, 0, 1, 2, 3, 4, 15, 16, 20, 31, 32, 47, 48, 60, 61,
        99, 100, 101, 115, 116, 199, 200, 249, 250, 255, 256, 399, 400, 3999, 4000, MAX - 100, MAX - 2, MAX - 1, MAX};

    private enum State { NO_IMAGE, NO_RUN, RUNS, GOES_ON, RETURNED, THROWN, ROOM, STACK }

    private RefusedTest() {
    }

    /** METHOD 0 goes on for ever, 1 to 4 end, each in its way, and no run begins of 5 to 8. */
    private static Images image() {
        return new Images().klass(NO).klass(0, 0).klass(0, 0, 4)
            .main(0, p(0, 0), NO, 3, c(NEW, 2, STORE, 2, IN, OUT, PUSH, 9, POP, JUMP, 6))
            .main(1, p(), 1, 0, c(PUSH, 2, ROW, RETV))
            .main(2, p(), NO, 0, c(NEW, 1, THROW))
            .main(3, p(), NO, 0, c(NEW, 2, PUSHW, 1, 1, ROW, RET))
            .main(4, p(), NO, 0, c(CALL, 4, RET))
            .main(5, p(0, 0, 0), NO, 3, c(RET))
            .main(6, p(1), NO, 1, c(RET))
            .method(0, 7, 0, p(), NO, 1, c(RET))
            .main(8, p(0, 4), NO, 2, c(RET));
    }

    /** An object in a state, with twenty bytes on its tape that are no image. */
    private static ByteProcessor in(State state) {
        ByteProcessor x = new ByteProcessor(4, 8, 32, 0);
        if (state != State.NO_IMAGE) {
            CHECK.same("load", image().loadInto(x), 0);
            x.input(5);
            x.input(6);
        }
        x.feed(1, 2, 3, 4, 5);
        switch (state) {
            case RUNS: case GOES_ON: x.begin(0, 7, 8); x.go(6); break;
            case RETURNED: x.begin(1, 0, 0); x.go(9); break;
            case THROWN: x.begin(2, 0, 0); x.go(9); break;
            case ROOM: x.begin(3, 0, 0); x.go(9); break;
            case STACK: x.begin(4, 0, 0); x.go(999); break;
            default: break;
        }
        if (state == State.GOES_ON) {
            CHECK.yes("collect", x.collect());
        }
        int[] told = {0, 0, 1, 1, 2, 3, 4, 5};
        CHECK.same(state + ": look(0)", x.look(0), told[state.ordinal()]);
        return x;
    }

    private static boolean isEnded(State state) {
        return state.ordinal() >= State.RETURNED.ordinal();
    }

    /** "False, and nothing happens, if there is none such." */
    private static void begins(ByteProcessor x, State state) {
        int[] none = {MIN, -1, 5, 6, 7, 8, 9, 48, MAX};
        for (int m : none) {
            CHECK.no(state + ": begin " + m, x.begin(m, 1, 2));
        }
        if (state == State.NO_IMAGE) {
            CHECK.no("begin without an image", x.begin(0, 1, 2));
            CHECK.no("input without an image", x.input(3));
        }
    }

    /** "IllegalArgumentException if n is below 1 or above 100000; IllegalStateException without a run." */
    private static void goes(ByteProcessor x, State state) {
        int[] wrong = {MIN, -1, 0, 100001, MAX};
        for (int n : wrong) {
            CHECK.thrown(state + ": go " + n, IllegalArgumentException.class, () -> x.go(n));
        }
        if (state == State.NO_IMAGE || state == State.NO_RUN) {
            CHECK.thrown(state + ": go 1", IllegalStateException.class, () -> x.go(1));
            CHECK.thrown(state + ": go 100000", IllegalStateException.class, () -> x.go(100000));
        }
        if (isEnded(state)) {
            CHECK.same(state + ": go 1", x.go(1), 0);
            CHECK.same(state + ": go 100000", x.go(100000), 0);
        }
    }

    private static void others(ByteProcessor x, State state) {
        if (state != State.RUNS) {
            CHECK.no(state + ": collect", x.collect());
        }
        int[] ends = {MIN, -1, 21, 4000, MAX};
        for (int n : ends) {
            CHECK.same(state + ": end " + n, x.end(n), -1);
        }
        CHECK.same(state + ": load", x.load(), 1);
        CHECK.same(state + ": the byte", x.fault(1), 0);
        CHECK.thrown(state + ": pile", NoSuchElementException.class, () -> x.pile(400, 0));
        CHECK.thrown(state + ": pile what", NoSuchElementException.class, () -> x.pile(0, 2));
        CHECK.thrown(state + ": word", NoSuchElementException.class, () -> x.word(60, 0));
        CHECK.thrown(state + ": out", NoSuchElementException.class, () -> x.out(1));
        if (state != State.RUNS && state != State.GOES_ON) {
            CHECK.thrown(state + ": no PILE", NoSuchElementException.class, () -> x.pile(0, 0));
        }
    }

    private static void leaves(State state) {
        ByteProcessor x = in(state);
        Answers before = Answers.of(x);
        begins(x, state);
        goes(x, state);
        others(x, state);
        before.stay(CHECK, state + ": what is refused", Answers.of(x));
    }

    /** "Else what was stays: .. 2 a METHOD is WRONG": image, run and tape. */
    private static void wrongMethod(State state) {
        ByteProcessor x = in(state);
        Images.feed(x, Images.plain().main(3, p(), NO, 0, c(NULL, POP, RET)).main(4, p(), NO, 0, c(POP, RET)).bytes());
        Answers before = Answers.of(x);
        CHECK.same(state + ": load", x.load(), 2);
        CHECK.same(state + ": METHOD", x.fault(2), 1);
        CHECK.same(state + ": WHY", x.fault(3), 4);
        before.stay(CHECK, state + ": a load that answers 2", Answers.of(x));
        x.end(0);
        CHECK.same(state + ": the fault stays till the next load", x.fault(0), 2);
    }

    /** "False if there are 64": the numbers are as they were. */
    private static void fullInput() {
        ByteProcessor x = in(State.RUNS);
        for (int i = 2; i < 64; i++) {
            CHECK.yes("input " + i, x.input(i));
        }
        Answers before = Answers.of(x);
        CHECK.no("a 65th", x.input(99));
        before.stay(CHECK, "a 65th input", Answers.of(x));
    }

    /** After refused calls a run goes on as if they had not been. */
    private static void goesOnAlike() {
        State[] running = {State.RUNS, State.GOES_ON};
        for (State state : running) {
            ByteProcessor x = in(state);
            ByteProcessor y = in(state);
            begins(x, state);
            goes(x, state);
            others(x, state);
            CHECK.same("go", x.go(50), y.go(50));
            Answers.of(y).stay(CHECK, "refused ahead of go", Answers.of(x));
        }
    }

    /** For any arguments in any state nothing but what the document names is thrown. */
    private static void anything(State state) {
        for (int a : EDGES) {
            ByteProcessor x = in(state);
            x.fault(a);
            x.look(a);
            x.cached(a);
            x.method(a, a);
            quiet(() -> x.out(a));
            for (int b : EDGES) {
                x.klass(a, b);
                x.table(a, b);
                x.handle(a, b);
                quiet(() -> x.pile(a, b));
                quiet(() -> x.word(a, b));
            }
            ByteProcessor y = in(state);
            for (int b : EDGES) {
                y.method(a, b);
                y.type(a, b, -1);
                y.type(a, b, 100);
                y.type(0, a, b);
                y.type(a, 0, b);
            }
        }
    }

    private static void quiet(Check.Call call) {
        try {
            call.answer();
        } catch (NoSuchElementException e) {
            // One of the answers that the document names; any other exception ends the test.
        }
    }

    /** "What is outside of these is the nearest": any four ints make an object that runs. */
    private static void anyObject() {
        for (int a : EDGES) {
            for (int i = 0; i < 4; i++) {
                ByteProcessor x = new ByteProcessor(i == 0 ? a : 4, i == 1 ? a : 8, i == 2 ? a : 32, i == 3 ? a : 1);
                CHECK.same("load", image().loadInto(x), 0);
                CHECK.yes("begin", x.begin(1, a, a));
                CHECK.same("go", x.go(100), 3);
                CHECK.same("returned", x.look(0), 2);
                CHECK.yes("begin", x.begin(0, a, -a));
                CHECK.same("go", x.go(3), 3);
                CHECK.same("thrown", x.look(0), 3);
            }
        }
    }

    public static void main(String[] args) {
        for (State state : State.values()) {
            leaves(state);
            wrongMethod(state);
            anything(state);
        }
        fullInput();
        goesOnAlike();
        anyObject();
        CHECK.end();
    }
}
