/** Counts answers that are not the ones that are due. */
final class Check {
    private final String name;
    private int wrong;

    interface Call {
        long answer();
    }

    Check(String name) {
        this.name = name;
    }

    void same(String what, long got, long want) {
        if (got != want) {
            wrong++;
            System.out.println(name + ": " + what + " answered " + got + ", due is " + want);
        }
    }

    void yes(String what, boolean got) {
        same(what, got ? 1 : 0, 1);
    }

    void no(String what, boolean got) {
        same(what, got ? 1 : 0, 0);
    }

    void all(String what, int[] got, int... want) {
        same(what + ", how many", got.length, want.length);
        for (int i = 0; i < Math.min(got.length, want.length); i++) {
            same(what + " " + i, got[i], want[i]);
        }
    }

    void thrown(String what, Class<? extends RuntimeException> want, Call call) {
        Class<?> got = null;
        try {
            call.answer();
        } catch (RuntimeException e) {
            got = e.getClass();
        }
        if (got != want) {
            wrong++;
            System.out.println(name + ": " + what + " threw " + got + ", due is " + want);
        }
    }

    void end() {
        System.out.println(name + ": " + (wrong == 0 ? "all answers are as due" : wrong + " answers are not as due"));
        if (wrong != 0) {
            System.exit(1);
        }
    }
}
