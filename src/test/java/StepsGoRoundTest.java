/** Promise 13: "ints that go round". Of those only STEPS can come to more than an int holds within 512 calls. */
public final class StepsGoRoundTest extends Ops {
    private static final Check CHECK = new Check("StepsGoRoundTest");

    private StepsGoRoundTest() {
    }

    /**
     * 250 words stay, and an object of 6 words is made again and again. Each time a COLLECTION goes on: it is ended, which is
     * not enough (1 + 250, 1 + 6 and 1 STEPS); another one is (1 + 250 and 1); and one begins behind it.
     */
    public static void main(String[] args) {
        int each = 1 + 250 + 1 + 6 + 1 + 1 + 250 + 1;
        int cyclesOfThree = 1 + 2 + 6 + 1 + 1 + 2;
        ByteProcessor x = new Images().klass(NO).klass(0, 0, 0, 0, 0, 0, 0)
            .main(0, p(), NO, 1, c(PUSHW, 0, 250, ROW, STORE, 0, NEW, 1, POP, JUMP, 6)).loaded(2, 8, 256, 0);
        x.begin(0, 0, 0);
        x.go(3 + 2 * 3);
        long steps = x.look(13);
        long cycles = x.cycles();
        for (int i = 0; i < 130; i++) {
            x.go(99999);
            steps += 33333L * each;
            cycles += 33333L * (each + cyclesOfThree);
            CHECK.same("STEPS", x.look(13), (int) steps);
            CHECK.same("cycles, which do not go round", x.cycles(), cycles);
        }
        CHECK.yes("they went round", steps > Integer.MAX_VALUE && x.look(13) < 0);
        CHECK.end();
    }
}
