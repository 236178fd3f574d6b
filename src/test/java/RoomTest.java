import com.sun.management.ThreadMXBean;
import java.lang.management.ManagementFactory;
import java.lang.reflect.Array;
import java.lang.reflect.Field;
import java.lang.reflect.Modifier;
import java.util.ArrayDeque;
import java.util.Collections;
import java.util.Deque;
import java.util.IdentityHashMap;
import java.util.Set;

/** All calls of a run live in one room: an object makes its rows in its constructor, and no call makes any. */
public final class RoomTest extends Ops {
    private static final Check CHECK = new Check("RoomTest");
    private static final long OBJECTS_IN_ROOM = 600000;
    private static final long ELEMENTS_IN_ROOM = 7300000;
    private static final int CALLS = 512;
    private static final int LEAST_OBJECT = 16;
    private static final ThreadMXBean THREADS = (ThreadMXBean) ManagementFactory.getThreadMXBean();

    private static final int[] RIGHT = Images.plain().klass(0, 0, 4)
        .main(0, p(0, 0), NO, 3, c(NEW, 2, STORE, 2, IN, OUT, LOAD, 0, CALL, 1, POP, PUSH, 3, ROW, POP, JUMP, 6))
        .main(1, p(0), 0, 1, c(LOAD, 0, PUSH, 0, DIV, RETV, POP, PUSH, 5, RETV), p(0, 5, 6, 1)).bytes();
    private static final int[] WRONG_METHOD = Images.plain().main(0, p(), NO, 0, c(POP, RET)).bytes();
    private static final int[] WRONG_FORM = {202, 254, 1};
    /** The bytes of each image as feed takes them, made here since a call's own rows are counted below. */
    private static final int[] RIGHT_WORDS = words(RIGHT);
    private static final int[] WRONG_METHOD_WORDS = words(WRONG_METHOD);
    private static final int[] WRONG_FORM_WORDS = words(WRONG_FORM);

    private enum Kind {
        TAPE, LOAD, LOAD_WRONG_FORM, LOAD_WRONG_METHOD, IMAGE, TYPES, RUN, STOP_AND_LOOK, HEAP, COLLECT
    }

    private RoomTest() {
    }

    private static int[] words(int[] bytes) {
        int[] all = new int[(bytes.length + 19) / 20 * 5];
        for (int i = 0; i < bytes.length; i++) {
            all[i / 4] |= (bytes[i] & 255) << 24 - i % 4 * 8;
        }
        return all;
    }

    private static void feed(ByteProcessor x, int[] words, int length) {
        x.end(0);
        for (int i = 0; i < words.length; i += 5) {
            x.feed(words[i], words[i + 1], words[i + 2], words[i + 3], words[i + 4]);
        }
        x.end(length);
    }

    private static int load(ByteProcessor x, int[] words, int length) {
        feed(x, words, length);
        return x.load();
    }

    private static ByteProcessor loaded() {
        ByteProcessor x = new ByteProcessor(16, 64, 256, 8);
        CHECK.same("load", load(x, RIGHT_WORDS, RIGHT.length), 0);
        CHECK.yes("input", x.input(3));
        return x;
    }

    /** Some calls of a kind, of which none throws (an exception that the document asks for is an object, too). */
    private static long call(Kind kind, ByteProcessor x) {
        switch (kind) {
            case TAPE: return x.feed(1, 2, 3, 4, 5) + x.end(7) + x.end(8) + x.look(26);
            case LOAD: return load(x, RIGHT_WORDS, RIGHT.length);
            case LOAD_WRONG_FORM: return load(x, WRONG_FORM_WORDS, WRONG_FORM.length) + x.fault(1);
            case LOAD_WRONG_METHOD: return load(x, WRONG_METHOD_WORDS, WRONG_METHOD.length) + x.fault(3);
            case IMAGE: return x.klass(2, 0) + x.klass(2, 4) + x.method(1, 9) + x.table(2, 0) + x.look(24);
            case TYPES: return x.type(0, 4, 2) + x.type(1, 6, 100) + x.type(0, 17, -1) + x.type(2, 0, 0);
            case RUN: return (x.input(3) ? 1 : 0) + (x.begin(0, 4, 5) ? 1 : 0) + x.go(2000) + x.look(0);
            case STOP_AND_LOOK: return (x.begin(0, 4, 5) ? x.go(6) : 0) + x.pile(0, 0) + x.cycles() + x.cached(0);
            case HEAP: return (x.begin(0, 4, 5) ? x.go(6) : 0) + x.handle(1, 2) + x.word(1, 0) + x.out(0);
            default: return (x.begin(0, 4, 5) ? x.go(6) : 0) + (x.collect() ? 1 : 0) + x.go(100) + x.look(13);
        }
    }

    private static boolean isThing(Class<?> type) {
        return !type.isPrimitive();
    }

    /** All objects and arrays that can be reached from one. */
    private static Set<Object> things(Object root) {
        Set<Object> found = Collections.newSetFromMap(new IdentityHashMap<>());
        Deque<Object> open = new ArrayDeque<>();
        open.add(root);
        while (!open.isEmpty()) {
            Object thing = open.poll();
            if (!found.add(thing)) {
                continue;
            }
            if (thing.getClass().isArray()) {
                for (int i = 0; isThing(thing.getClass().getComponentType()) && i < Array.getLength(thing); i++) {
                    addIfThere(open, Array.get(thing, i));
                }
            } else {
                addFields(open, thing);
            }
        }
        return found;
    }

    private static void addIfThere(Deque<Object> open, Object thing) {
        if (thing != null) {
            open.add(thing);
        }
    }

    private static void addFields(Deque<Object> open, Object thing) {
        for (Field field : thing.getClass().getDeclaredFields()) {
            if (isThing(field.getType()) && !Modifier.isStatic(field.getModifiers())) {
                field.setAccessible(true);
                try {
                    addIfThere(open, field.get(thing));
                } catch (IllegalAccessException e) {
                    throw new IllegalStateException(e);
                }
            }
        }
    }

    private static long elements(Object thing) {
        if (thing.getClass().isArray()) {
            return Array.getLength(thing);
        }
        long fields = 0;
        for (Field field : thing.getClass().getDeclaredFields()) {
            fields += Modifier.isStatic(field.getModifiers()) ? 0 : 1;
        }
        return fields;
    }

    /** "Count your dearest call's objects and elements times all calls": the dearest one is the constructor. */
    private static void newObject() {
        Set<Object> all = things(new ByteProcessor(16, 64, 256, 8));
        long elements = 0;
        for (Object thing : all) {
            elements += elements(thing);
        }
        CHECK.yes("objects and arrays of a new object: " + all.size(), all.size() * (CALLS + 1) <= OBJECTS_IN_ROOM);
        CHECK.yes("fields and elements of a new object: " + elements, elements * (CALLS + 1) <= ELEMENTS_IN_ROOM);
    }

    /** "Make rows in constructors and use them again": after all calls an object has what it had when it was new. */
    private static void sameThings() {
        ByteProcessor x = new ByteProcessor(4, 8, 64, 1);
        Set<Object> before = things(x);
        CHECK.same("load", call(Kind.LOAD, x), 0);
        for (int round = 0; round < 4; round++) {
            for (Kind kind : Kind.values()) {
                call(kind, x);
                Set<Object> after = things(x);
                CHECK.same(kind + ": things", after.size(), before.size());
                CHECK.yes(kind + ": the same things", before.containsAll(after));
            }
        }
    }

    private static long bytesMade(Kind kind, int rounds) {
        ByteProcessor x = loaded();
        long before = THREADS.getThreadAllocatedBytes(Thread.currentThread().getId());
        for (int i = 0; i < rounds; i++) {
            call(kind, x);
        }
        return THREADS.getThreadAllocatedBytes(Thread.currentThread().getId()) - before;
    }

    /**
     * No call makes anything that it drops again either: less than the least object a round. The Java machine itself now and
     * then makes something while it compiles, so the least of some tries counts.
     */
    private static void nothingMade() {
        int rounds = 20;
        for (Kind kind : Kind.values()) {
            long made = Long.MAX_VALUE;
            for (int tries = 0; tries < 8; tries++) {
                made = Math.min(made, bytesMade(kind, rounds));
            }
            CHECK.yes(kind + ": " + made + " bytes are made in " + rounds + " rounds", made < rounds * LEAST_OBJECT);
        }
    }

    public static void main(String[] args) {
        newObject();
        sameThings();
        if (THREADS.isThreadAllocatedMemorySupported() && THREADS.isThreadAllocatedMemoryEnabled()) {
            nothingMade();
        }
        CHECK.end();
    }
}
