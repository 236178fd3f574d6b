import java.util.ArrayList;
import java.util.List;
import java.util.NoSuchElementException;

/** What an object tells at a moment, asked by some 220 calls, since an object is used for 512 at most. */
final class Answers {
    private static final long THREW = Long.MIN_VALUE;

    private final List<String> calls = new ArrayList<>();
    private final List<Long> answers = new ArrayList<>();

    private Answers() {
    }

    static Answers of(ByteProcessor x) {
        Answers all = new Answers();
        all.image(x);
        for (int what = 0; what <= 26; what++) {
            all.add("look " + what, x.look(what));
        }
        all.add("cycles", x.cycles());
        all.run(x);
        return all;
    }

    private void add(String call, long answer) {
        calls.add(call);
        answers.add(answer);
    }

    private void image(ByteProcessor x) {
        for (int c = 0; c < 3; c++) {
            for (int what = 0; what < 5; what++) {
                add("klass " + c + " " + what, x.klass(c, what));
            }
            add("table " + c, x.table(c, 0));
        }
        for (int m = 0; m < 2; m++) {
            for (int what = 0; what < 10; what++) {
                add("method " + m + " " + what, x.method(m, what));
            }
            for (int place = 0; place < 8; place++) {
                add("type " + m + " " + place, x.type(m, place, -1));
                add("type of a word " + m + " " + place, x.type(m, place, 100));
            }
        }
    }

    private void run(ByteProcessor x) {
        for (int i = 0; i < 16; i++) {
            int at = i;
            add("pile " + i, guarded(() -> x.pile(at, 0)));
            add("kind " + i, guarded(() -> x.pile(at, 1)));
        }
        for (int h = 1; h <= 6; h++) {
            int at = h;
            for (int what = 0; what < 5; what++) {
                add("handle " + h + " " + what, x.handle(h, what));
            }
            add("word of " + h, guarded(() -> x.word(at, 0)));
        }
        for (int i = 0; i < 4; i++) {
            int at = i;
            add("out " + i, guarded(() -> x.out(at)));
            add("cached " + i, x.cached(i));
        }
    }

    private static long guarded(Check.Call call) {
        try {
            return call.answer();
        } catch (NoSuchElementException e) {
            return THREW;
        }
    }

    void stay(Check check, String what, Answers later) {
        for (int i = 0; i < answers.size(); i++) {
            check.same(what + " leaves " + calls.get(i), later.answers.get(i), answers.get(i));
        }
    }
}
