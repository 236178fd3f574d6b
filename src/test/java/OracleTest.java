import java.util.NoSuchElementException;
import java.util.Random;

/** Lets the program and the Oracle answer the same calls on images made by chance, right ones and spoilt ones. */
public final class OracleTest {
    private static long wrong;
    private static final int[] SEEN = new int[64];
    private static final int[] EDGES = {-2147483648, -2, -1, 0, 1, 2, 3, 5, 8, 31, 32, 48, 60, 61, 99, 100, 101, 115, 116,
        250, 399, 400, 2147483647};

    private OracleTest() {
    }

    private interface Call {
        long answer();
    }

    private static long outcome(Call call) {
        try {
            return call.answer();
        } catch (IllegalArgumentException e) {
            return Long.MIN_VALUE + 1;
        } catch (IllegalStateException e) {
            return Long.MIN_VALUE + 2;
        } catch (NoSuchElementException e) {
            return Long.MIN_VALUE + 3;
        }
    }

    private static void same(long seed, String what, Call got, Call want) {
        long a = outcome(got);
        long b = outcome(want);
        if (a != b && wrong++ < 20) {
            System.out.println("seed " + seed + ": " + what + " answered " + a + ", the oracle " + b);
        }
    }

    private static int[] fiveInts(int[] bytes, int at) {
        int[] five = new int[5];
        for (int i = 0; i < 20; i++) {
            five[i / 4] = five[i / 4] << 8 | (at + i < bytes.length ? bytes[at + i] : 77);
        }
        return five;
    }

    private static void feed(long seed, ByteProcessor x, Oracle o, int[] bytes) {
        same(seed, "end(0)", () -> x.end(0), () -> o.end(0));
        for (int at = 0; at < bytes.length; at += 20) {
            int[] v = fiveInts(bytes, at);
            same(seed, "feed", () -> x.feed(v[0], v[1], v[2], v[3], v[4]), () -> o.feed(v));
        }
        same(seed, "end", () -> x.end(bytes.length), () -> o.end(bytes.length));
    }

    private static int load(long seed, ByteProcessor x, Oracle o) {
        int answer = x.load();
        same(seed, "load", () -> answer, () -> o.load());
        for (int what = -1; what <= 5; what++) {
            int w = what;
            same(seed, "fault " + w, () -> x.fault(w), () -> o.fault(w));
        }
        return answer;
    }

    private static void compareImage(long seed, ByteProcessor x, Oracle o) {
        for (int c = -1; c <= 16; c++) {
            for (int what = -1; what < 50; what++) {
                int a = c;
                int b = what;
                same(seed, "klass " + a + " " + b, () -> x.klass(a, b), () -> o.klass(a, b));
                same(seed, "table " + a + " " + b, () -> x.table(a, b), () -> o.table(a, b));
            }
        }
        for (int m = -1; m <= x.look(25); m++) {
            for (int what = -1; what <= 10; what++) {
                int a = m;
                int b = what;
                same(seed, "method " + a + " " + b, () -> x.method(a, b), () -> o.method(a, b));
            }
            for (int p = -1; p <= x.method(m, 6); p++) {
                for (int i = -2; i <= 117; i = i == 21 ? 99 : i + 1) {
                    int a = m;
                    int b = p;
                    int c = i;
                    same(seed, "type " + a + " " + b + " " + c, () -> x.type(a, b, c), () -> o.type(a, b, c));
                }
            }
        }
    }

    private static void compareRun(long seed, ByteProcessor x, Oracle o) {
        for (int what = -1; what <= 27; what++) {
            int w = what;
            same(seed, "look " + w, () -> x.look(w), () -> o.look(w));
        }
        same(seed, "cycles", () -> x.cycles(), () -> o.cycles());
        int words = x.look(6);
        for (int i = -1; i <= words; i++) {
            int a = i;
            same(seed, "pile " + a + " 0", () -> x.pile(a, 0), () -> o.pile(a, 0));
            same(seed, "pile " + a + " 1", () -> x.pile(a, 1), () -> o.pile(a, 1));
        }
        for (int h = 0; h <= 61; h++) {
            int a = h;
            for (int what = -1; what <= 5; what++) {
                int b = what;
                same(seed, "handle " + a + " " + b, () -> x.handle(a, b), () -> o.handle(a, b));
            }
            for (int i = -1; i <= Math.max(0, x.handle(h, 1)); i++) {
                int b = i;
                same(seed, "word " + a + " " + b, () -> x.word(a, b), () -> o.word(a, b));
            }
        }
        for (int i = -1; i <= x.look(20); i++) {
            int a = i;
            same(seed, "out " + a, () -> x.out(a), () -> o.out(a));
        }
        for (int i = -1; i <= 16; i++) {
            int a = i;
            same(seed, "cached " + a, () -> x.cached(a), () -> o.cached(a));
        }
        for (int edge : EDGES) {
            same(seed, "pile edge", () -> x.pile(edge, 0), () -> o.pile(edge, 0));
            same(seed, "pile edge what", () -> x.pile(0, edge), () -> o.pile(0, edge));
            same(seed, "word edge", () -> x.word(edge, 0), () -> o.word(edge, 0));
            same(seed, "word edge i", () -> x.word(1, edge), () -> o.word(1, edge));
            same(seed, "handle edge", () -> x.handle(edge, 0), () -> o.handle(edge, 0));
            same(seed, "out edge", () -> x.out(edge), () -> o.out(edge));
        }
    }

    private static void runAll(long seed, ByteProcessor x, Oracle o, Random chance) {
        for (int m = -1; m <= x.look(25); m++) {
            int number = m;
            int a = chance.nextInt(4) == 0 ? chance.nextInt() : chance.nextInt(20) - 5;
            int b = chance.nextInt(4) == 0 ? chance.nextInt() : chance.nextInt(20) - 5;
            boolean begun = x.begin(number, a, b);
            same(seed, "begin " + number, () -> begun ? 1 : 0, () -> o.begin(number, a, b) ? 1 : 0);
            compareRun(seed, x, o);
            for (int i = 0; i < 25 && begun; i++) {
                int n = i > 22 ? 400 : 1 + chance.nextInt(chance.nextInt(4) == 0 ? 40 : 6);
                same(seed, "go " + n, () -> x.go(n), () -> o.go(n));
                compareRun(seed, x, o);
                if (chance.nextInt(8) == 0) {
                    same(seed, "collect", () -> x.collect() ? 1 : 0, () -> o.collect() ? 1 : 0);
                    compareRun(seed, x, o);
                }
                if (chance.nextInt(4) == 0) {
                    int v = chance.nextInt(9) - 2;
                    same(seed, "input", () -> x.input(v) ? 1 : 0, () -> o.input(v) ? 1 : 0);
                }
            }
            SEEN[x.look(0)]++;
            if (x.look(0) == 3 && x.handle(x.look(1), 0) == 1) {
                SEEN[16 + Math.floorMod(x.word(x.look(1), 0), 8)]++;
            }
            if (x.look(14) > 0) {
                SEEN[8]++;
            }
        }
        for (int edge : EDGES) {
            same(seed, "go edge", () -> x.go(edge), () -> o.go(edge));
            same(seed, "look edge", () -> x.look(edge), () -> o.look(edge));
            same(seed, "klass edge", () -> x.klass(edge, 0), () -> o.klass(edge, 0));
            same(seed, "klass edge what", () -> x.klass(1, edge), () -> o.klass(1, edge));
            same(seed, "method edge", () -> x.method(edge, 0), () -> o.method(edge, 0));
            same(seed, "method edge what", () -> x.method(0, edge), () -> o.method(0, edge));
            same(seed, "table edge", () -> x.table(edge, 0), () -> o.table(edge, 0));
            same(seed, "table edge name", () -> x.table(0, edge), () -> o.table(0, edge));
            same(seed, "type edge", () -> x.type(edge, 0, 0), () -> o.type(edge, 0, 0));
            same(seed, "type edge place", () -> x.type(0, edge, 0), () -> o.type(0, edge, 0));
            same(seed, "type edge i", () -> x.type(0, 0, edge), () -> o.type(0, 0, edge));
            same(seed, "begin edge", () -> x.begin(edge, 0, 0) ? 1 : 0, () -> o.begin(edge, 0, 0) ? 1 : 0);
            same(seed, "end edge", () -> x.end(edge), () -> o.end(edge));
            same(seed, "fault edge", () -> x.fault(edge), () -> o.fault(edge));
            same(seed, "cached edge", () -> x.cached(edge), () -> o.cached(edge));
        }
    }

    private static int[] spoilt(int[] bytes, Random chance) {
        int[] copy = bytes.clone();
        int kind = chance.nextInt(10);
        if (kind == 0) {
            return java.util.Arrays.copyOf(copy, chance.nextInt(copy.length));
        }
        if (kind == 1) {
            copy = java.util.Arrays.copyOf(copy, copy.length + 1 + chance.nextInt(3));
            return copy;
        }
        int changes = 1 + chance.nextInt(3);
        for (int i = 0; i < changes; i++) {
            int at = chance.nextInt(copy.length);
            copy[at] = chance.nextInt(3) == 0 ? chance.nextInt(256) : chance.nextInt(4) == 0 ? chance.nextInt(59)
                : Math.floorMod(copy[at] + chance.nextInt(5) - 2, 256);
        }
        return copy;
    }

    private static void oneSeed(long seed) {
        Random chance = new Random(seed * 7919 + 13);
        int k = chance.nextInt(20);
        int ram = chance.nextBoolean() ? chance.nextInt(14) : chance.nextInt(70);
        int w = chance.nextBoolean() ? 10 + chance.nextInt(40) : chance.nextInt(300);
        int pace = chance.nextInt(11) - 1;
        ByteProcessor x = new ByteProcessor(k, ram, w, pace);
        Oracle o = new Oracle(k, ram, w, pace);
        compareImage(seed, x, o);
        compareRun(seed, x, o);
        int[] bytes = new ProgramMaker(seed).make();
        for (int i = 0; i < 30; i++) {
            feed(seed, x, o, spoilt(bytes, chance));
            int answer = load(seed, x, o);
            SEEN[32 + answer]++;
            if (answer == 2) {
                SEEN[40 + x.fault(3)]++;
            }
            if (answer == 0 && i % 5 == 0) {
                compareImage(seed, x, o);
                same(seed, "begin", () -> x.begin(0, 3, 4) ? 1 : 0, () -> o.begin(0, 3, 4) ? 1 : 0);
                same(seed, "go", () -> x.go(500), () -> o.go(500));
                compareRun(seed, x, o);
            }
        }
        feed(seed, x, o, bytes);
        SEEN[36 + load(seed, x, o)]++;
        compareImage(seed, x, o);
        runAll(seed, x, o, chance);
    }

    public static void main(String[] args) {
        int from = args.length > 0 ? Integer.parseInt(args[0]) : 0;
        int to = args.length > 1 ? Integer.parseInt(args[1]) : 120;
        for (int seed = from; seed < to; seed++) {
            oneSeed(seed);
        }
        if (args.length > 0) {
            System.out.println("ends " + SEEN[1] + " run, " + SEEN[2] + " returned, " + SEEN[3] + " thrown, " + SEEN[4]
                + " room, " + SEEN[5] + " stack, " + SEEN[8] + " collected; right " + SEEN[36] + ", form " + SEEN[37] + ", wrong "
                + SEEN[38] + "; spoilt: " + SEEN[32] + " " + SEEN[33] + " " + SEEN[34]);
            for (int i = 1; i < 9; i++) {
                System.out.println("why " + i + ": " + SEEN[40 + i] + ", trap " + i + ": " + SEEN[16 + i]);
            }
        }
        System.out.println("OracleTest: " + (wrong == 0 ? "all answers are the same" : wrong + " answers differ"));
        if (wrong != 0) {
            System.exit(1);
        }
    }
}
