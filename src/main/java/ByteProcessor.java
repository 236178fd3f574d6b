import java.util.Arrays;
import java.util.NoSuchElementException;

/**
 * A processor for byte code: images of classes are read, verified by the flow of their data, linked to
 * tables and run, with a RAM for the pile's top, a cache of whole methods and a heap that is copied by a
 * collector step by step.
 */
public final class ByteProcessor {
    public static final int NONE = -1;

    private static final int TAPE_LIMIT = 4000;
    private static final int CLASS_LIMIT = 16;
    private static final int METHOD_LIMIT = 48;
    private static final int NAMES = 32;
    private static final int LOCAL_LIMIT = 20;
    private static final int CODE_LIMIT = 250;
    private static final int PUSH_LIMIT = 16;
    private static final int PILE_LIMIT = 400;
    private static final int HANDLES = 60;
    private static final int INPUT_LIMIT = 64;
    private static final int OUTPUT_LIMIT = 200;
    private static final int GO_LIMIT = 100000;
    private static final int FRAME_WORDS = 3;
    private static final int CALL_LENGTH = 2;

    /* Types: those of an image are 0 .. 17; the two that only verifying knows stand behind them. */
    private static final int INT = 0;
    private static final int ROW = 1;
    private static final int FIRST_CLASS = 2;
    private static final int NULL = 18;
    private static final int NOTHING = 19;

    private static final int NULL_TOLD = -2;
    private static final int NOTHING_TOLD = -3;
    private static final int ROW_OWNER = -2;
    private static final int FIRST_PILE_TYPE = 100;

    private static final int NO_RUN = 0;
    private static final int RUNS = 1;
    private static final int RETURNED = 2;
    private static final int THROWN = 3;
    private static final int ROOM = 4;
    private static final int STACK = 5;

    private static final int TRAPS_CLASS = 1;
    private static final int TRAP_NULL = 1;
    private static final int TRAP_OUTSIDE = 2;
    private static final int TRAP_DIVISOR = 3;
    private static final int TRAP_CAST = 4;
    private static final int TRAP_SIZE = 5;
    private static final int TRAP_INPUT = 6;

    /* The INSTRUCTIONS; of the six JUMPS that compare an int with 0, and of the six with another, the first one. */
    private static final int PUSH_BYTE = 0;
    private static final int PUSH_WORD = 1;
    private static final int PUSH_NULL = 2;
    private static final int LOAD = 3;
    private static final int STORE = 4;
    private static final int POP = 5;
    private static final int DUP = 6;
    private static final int SWAP = 7;
    private static final int PLUS = 8;
    private static final int MINUS = 9;
    private static final int TIMES = 10;
    private static final int DIVIDE = 11;
    private static final int REST = 12;
    private static final int AND = 13;
    private static final int OR = 14;
    private static final int XOR = 15;
    private static final int LEFT = 16;
    private static final int RIGHT = 17;
    private static final int RIGHT_UNSIGNED = 18;
    private static final int NEGATE = 19;
    private static final int TO_BYTE = 20;
    private static final int TO_CHAR = 21;
    private static final int TO_SHORT = 22;
    private static final int INC = 23;
    private static final int JUMP = 24;
    private static final int JUMP_IF_ZERO = 25;
    private static final int JUMP_IF_INTS = 31;
    private static final int JUMP_IF_NULL = 37;
    private static final int JUMP_IF_NOT_NULL = 38;
    private static final int JUMP_IF_SAME = 39;
    private static final int JUMP_IF_OTHER = 40;
    private static final int SWITCH = 41;
    private static final int NEW = 42;
    private static final int NEW_ROW = 43;
    private static final int SIZE = 44;
    private static final int GET_AT = 45;
    private static final int PUT_AT = 46;
    private static final int GET = 47;
    private static final int PUT = 48;
    private static final int CALL_STATIC = 49;
    private static final int CALL_TABLE = 50;
    private static final int CALL_EXACTLY = 51;
    private static final int RETURN = 52;
    private static final int RETURN_VALUE = 53;
    private static final int THROW = 54;
    private static final int CAST = 55;
    private static final int IS = 56;
    private static final int IN = 57;
    private static final int OUT = 58;

    /** Bytes of each INSTRUCTION; SWITCH has as many more as its k. */
    private static final int[] LENGTHS = {
        2, 3, 1, 2, 2, 1, 1, 1,
        1, 1, 1, 1, 1, 1, 1, 1, 1, 1, 1, 1, 1, 1, 1, 3,
        2, 2, 2, 2, 2, 2, 2, 2, 2, 2, 2, 2, 2, 2, 2, 2, 2, 4,
        2, 1, 1, 1, 1, 3, 3, 2, 2, 2, 1, 1, 1, 2, 2, 1, 1};

    /** Words that each INSTRUCTION takes; those of CALLS depend on the METHOD. */
    private static final int[] TAKES = {
        0, 0, 0, 0, 1, 1, 1, 2,
        2, 2, 2, 2, 2, 2, 2, 2, 2, 2, 2, 1, 1, 1, 1, 0,
        0, 1, 1, 1, 1, 1, 1, 2, 2, 2, 2, 2, 2, 1, 1, 2, 2, 1,
        0, 1, 1, 2, 3, 1, 2, 0, 0, 0, 0, 1, 1, 1, 1, 0, 1};

    /** Cycles of each INSTRUCTION that it always has, beside those that depend on what it meets. */
    private static final int[] CYCLES = {
        1, 1, 1, 1, 1, 1, 1, 1,
        1, 1, 4, 8, 8, 1, 1, 1, 1, 1, 1, 1, 1, 1, 1, 1,
        1, 1, 1, 1, 1, 1, 1, 1, 1, 1, 1, 1, 1, 1, 1, 1, 1, 3,
        3, 3, 3, 4, 4, 3, 3, 5, 5, 5, 4, 4, 1, 1, 1, 1, 1};

    private final Reader reader;
    private final Verifier verifier;
    private final Machine machine;
    /** The image in use, without classes as long as there is none. */
    private Image image;
    /** The one whose bytes are the tape: a wrong one leaves the other as it was. */
    private Image coming;
    private int loadAnswer;
    private int wrongByte;
    private int wrongMethod;
    private int wrongWhy;
    private int wrongPlace;

    public ByteProcessor(int k, int ram, int w, int pace) {
        reader = new Reader();
        verifier = new Verifier();
        image = new Image();
        coming = new Image();
        machine = new Machine(within(k, 2, 16), within(ram, 8, 64), within(w, 16, 256), within(pace, 0, 8));
        loadAnswer = NONE;
        wrongByte = NONE;
        wrongMethod = NONE;
        wrongWhy = NONE;
        wrongPlace = NONE;
    }

    private static int within(int value, int lowest, int highest) {
        return Math.max(lowest, Math.min(highest, value));
    }

    public int feed(int a, int b, int c, int d, int e) {
        if (coming.length + 20 > TAPE_LIMIT) {
            return NONE;
        }
        coming.append(a);
        coming.append(b);
        coming.append(c);
        coming.append(d);
        coming.append(e);
        return coming.length;
    }

    public int end(int n) {
        if (n < 0 || n > coming.length) {
            return NONE;
        }
        coming.length = n;
        return n;
    }

    public int load() {
        wrongByte = reader.readImage(coming);
        wrongMethod = wrongByte == NONE ? verifier.firstWrong(coming) : NONE;
        wrongWhy = wrongMethod == NONE ? NONE : verifier.why;
        wrongPlace = wrongMethod == NONE ? NONE : verifier.where;
        if (wrongByte != NONE) {
            loadAnswer = 1;
        } else if (wrongMethod != NONE) {
            loadAnswer = 2;
        } else {
            loadAnswer = 0;
            useComing();
        }
        return loadAnswer;
    }

    /** The image that was in use takes the next tape, so that no other one is ever made. */
    private void useComing() {
        Image old = image;
        image = coming;
        coming = old;
        coming.length = 0;
        machine.clear(image);
        machine.inputs = 0;
    }

    public int fault(int what) {
        switch (what) {
            case 0: return loadAnswer;
            case 1: return wrongByte;
            case 2: return wrongMethod;
            case 3: return wrongWhy;
            case 4: return wrongPlace;
            default: return NONE;
        }
    }

    public int klass(int c, int what) {
        if (c < 0 || c >= image.classes) {
            return NONE;
        }
        switch (what) {
            case 0: return image.superOf[c];
            case 1: return image.ownFields[c];
            case 2: return image.allFields[c];
            default: return what < 3 ? NONE : image.fieldType(c, what - 3);
        }
    }

    public int method(int m, int what) {
        Method method = image.methodAt(m);
        if (method == null) {
            return NONE;
        }
        switch (what) {
            case 0: return method.owner;
            case 1: return method.name;
            case 2: return method.isStatic ? 1 : 0;
            case 3: return method.params;
            case 4: return method.result;
            case 5: return method.locals;
            case 6: return method.length;
            case 7: return method.handlers;
            case 8: return method.stated;
            case 9: return method.timesDone;
            default: return NONE;
        }
    }

    public int table(int c, int name) {
        return image.inTable(c, name);
    }

    public int type(int m, int place, int i) {
        Method method = image.methodAt(m);
        if (method == null || place < 0 || place >= method.length) {
            return NONE;
        }
        States states = verifier.statesOf(image, m);
        int size = states.sizeAt(place);
        if (size == NONE) {
            return NONE;
        }
        if (i == -1) {
            return size;
        }
        if (i >= 0 && i < method.locals) {
            return told(states.typeAt(place, i));
        }
        if (i >= FIRST_PILE_TYPE && i - FIRST_PILE_TYPE < size) {
            return told(states.typeAt(place, LOCAL_LIMIT + i - FIRST_PILE_TYPE));
        }
        return NONE;
    }

    private static int told(int type) {
        if (type == NULL) {
            return NULL_TOLD;
        }
        return type == NOTHING ? NOTHING_TOLD : type;
    }

    public boolean input(int v) {
        if (image.classes == 0 || machine.inputs >= INPUT_LIMIT) {
            return false;
        }
        machine.input[machine.inputs] = v;
        machine.inputs++;
        return true;
    }

    public boolean begin(int m, int a, int b) {
        Method method = image.methodAt(m);
        if (method == null || !method.isStatic || method.params > 2) {
            return false;
        }
        for (int i = 0; i < method.params; i++) {
            if (method.types[i] != INT) {
                return false;
            }
        }
        machine.clear(image);
        machine.startRun(m, method, a, b);
        return true;
    }

    public int go(int n) throws IllegalArgumentException, IllegalStateException {
        if (n < 1 || n > GO_LIMIT) {
            throw new IllegalArgumentException("n is not 1 to 100000");
        }
        if (machine.status == NO_RUN) {
            throw new IllegalStateException("there is no run");
        }
        int done = 0;
        while (done < n && machine.status == RUNS) {
            machine.step();
            done++;
        }
        return done;
    }

    public int look(int what) {
        boolean runs = machine.status == RUNS;
        Heap heap = machine.heap;
        switch (what) {
            case 0: return machine.status;
            case 1: return machine.result;
            case 2: return machine.done;
            case 3: return runs ? machine.number : NONE;
            case 4: return runs ? machine.place : NONE;
            case 5: return runs ? machine.base : NONE;
            case 6: return runs ? machine.pile.size : 0;
            case 7: return machine.pile.low;
            case 8: return machine.pile.spills;
            case 9: return machine.pile.fills;
            case 10: return machine.cache.hits;
            case 11: return machine.cache.misses;
            case 12: return machine.cache.next;
            case 13: return heap.steps;
            case 14: return heap.collections;
            case 15: return heap.goesOn ? 1 : 0;
            case 16: return heap.used;
            case 17: return heap.goesOn ? heap.top : 0;
            case 18: return heap.goesOn ? heap.left : 0;
            case 19: return heap.count;
            case 20: return machine.outputs;
            case 21: return machine.inputs;
            case 22: return machine.inputsTaken;
            case 23: return heap.space;
            case 24: return image.classes;
            case 25: return image.methodCount;
            case 26: return coming.length;
            default: return NONE;
        }
    }

    public long cycles() {
        return machine.status == NO_RUN ? NONE : machine.meter.cycles;
    }

    public int pile(int i, int what) throws NoSuchElementException {
        // look(6) tells no words of the PILE unless it RUNS, so there is none to be read either.
        boolean isThere = machine.status == RUNS && i >= 0 && i < machine.pile.size;
        if (!isThere || what < 0 || what > 1) {
            throw new NoSuchElementException("no such word of the pile");
        }
        if (what == 0) {
            return machine.pile.valueAt(i);
        }
        return machine.pile.isReferenceAt(i) ? 1 : 0;
    }

    public int handle(int h, int what) {
        if (!machine.heap.isTaken(h)) {
            return NONE;
        }
        Handle handle = machine.heap.handles[h];
        switch (what) {
            case 0: return handle.owner;
            case 1: return handle.words;
            case 2: return handle.at;
            case 3: return handle.space;
            case 4: return machine.heap.goesOn ? handle.colour : Heap.BLACK;
            default: return NONE;
        }
    }

    public int word(int h, int i) throws NoSuchElementException {
        if (!machine.heap.isTaken(h) || i < 0 || i >= machine.heap.handles[h].words) {
            throw new NoSuchElementException("no such word of a handle");
        }
        return machine.heap.read(h, i);
    }

    public int out(int i) throws NoSuchElementException {
        if (i < 0 || i >= machine.outputs) {
            throw new NoSuchElementException("no such number of the output");
        }
        return machine.output[i];
    }

    public int cached(int i) {
        return i < 0 || i >= machine.cache.owners.length ? NONE : machine.cache.owners[i];
    }

    public boolean collect() {
        if (machine.status != RUNS || machine.heap.goesOn) {
            return false;
        }
        machine.heap.startCollection(machine.pile);
        return true;
    }

    /** The cycles of a run, which the machine's parts all add to. */
    private static final class Meter {
        long cycles;
    }

    /** One METHOD of an image, and what verifying counted of it. */
    private static final class Method {
        int owner;
        int name;
        boolean isStatic;
        int params;
        final int[] types = new int[5];
        int result;
        int locals;
        int length;
        int handlers;
        final int[] from = new int[4];
        final int[] to = new int[4];
        final int[] target = new int[4];
        final int[] caught = new int[4];
        int codeAt;
        int stated;
        int timesDone;

        int wordsTaken() {
            return isStatic ? params : params + 1;
        }

        /** The type of the word that a CALL takes as number i, the object of the METHOD's CLASS being one. */
        int typeTaken(int i) {
            int param = isStatic ? i : i - 1;
            return param < 0 || param >= types.length ? FIRST_CLASS + owner : types[param];
        }

        boolean isCovered(int handler, int place) {
            return from[handler] <= place && place < to[handler];
        }
    }

    /** The STATES of one METHOD: twelve types to a long, as a type has five bits and the room is small. */
    private static final class States {
        private static final int LONGS = 3;
        private static final int TYPES_IN_LONG = 12;

        private final long[] types = new long[CODE_LIMIT * LONGS];
        private final int[] sizes = new int[CODE_LIMIT];

        void clear() {
            Arrays.fill(sizes, NONE);
        }

        int sizeAt(int place) {
            return place < 0 || place >= CODE_LIMIT ? NONE : sizes[place];
        }

        void setSize(int place, int size) {
            if (place >= 0 && place < CODE_LIMIT) {
                sizes[place] = size;
            }
        }

        int typeAt(int place, int i) {
            if (place < 0 || place >= CODE_LIMIT || i < 0 || i >= LONGS * TYPES_IN_LONG) {
                return NOTHING;
            }
            return (int) (types[place * LONGS + i / TYPES_IN_LONG] >>> (i % TYPES_IN_LONG * 5)) & 31;
        }

        void setType(int place, int i, int type) {
            if (place < 0 || place >= CODE_LIMIT || i < 0 || i >= LONGS * TYPES_IN_LONG) {
                return;
            }
            int index = place * LONGS + i / TYPES_IN_LONG;
            int shift = i % TYPES_IN_LONG * 5;
            types[index] = types[index] & ~(31L << shift) | (long) type << shift;
        }
    }

    /** The bytes of a tape, and the classes and METHODS that were read from them; none where there is no image. */
    private static final class Image {
        static final int OWN_FIELDS = 6;
        private static final int BYTES_IN_INT = 4;

        private final int[] bytes = new int[TAPE_LIMIT / BYTES_IN_INT];
        int length;
        int classes;
        final int[] superOf = new int[CLASS_LIMIT];
        final int[] ownFields = new int[CLASS_LIMIT];
        final int[] allFields = new int[CLASS_LIMIT];
        private final int[] ownTypes = new int[CLASS_LIMIT * OWN_FIELDS];
        private final int[] table = new int[CLASS_LIMIT * NAMES];
        int methodCount;
        private final Method[] methods = new Method[METHOD_LIMIT];

        Image() {
            for (int m = 0; m < METHOD_LIMIT; m++) {
                methods[m] = new Method();
            }
        }

        void append(int four) {
            for (int shift = 24; shift >= 0 && length < TAPE_LIMIT; shift -= 8) {
                int index = length / BYTES_IN_INT;
                int upper = 24 - length % BYTES_IN_INT * 8;
                bytes[index] = bytes[index] & ~(255 << upper) | (four >>> shift & 255) << upper;
                length++;
            }
        }

        int byteAt(int at) {
            if (at < 0 || at >= TAPE_LIMIT) {
                return 0;
            }
            return bytes[at / BYTES_IN_INT] << at % BYTES_IN_INT * 8 >>> 24;
        }

        /** Forgets what was read; the bytes stay. */
        void clear() {
            classes = 0;
            methodCount = 0;
            Arrays.fill(table, NONE);
        }

        Method methodAt(int m) {
            return m < 0 || m >= methodCount ? null : methods[m];
        }

        Method addMethod() {
            if (methodCount >= METHOD_LIMIT) {
                return null;
            }
            methodCount++;
            return methods[methodCount - 1];
        }

        void setClass(int c, int above, int own) {
            superOf[c] = above;
            ownFields[c] = own;
            allFields[c] = above < 0 ? own : own + allFields[above];
        }

        void setOwnType(int c, int f, int type) {
            ownTypes[c * OWN_FIELDS + f] = type;
        }

        int fieldsOf(int c) {
            return c < 0 || c >= classes ? 0 : allFields[c];
        }

        /** Goes up to the class that has the field as its own one. */
        int fieldType(int c, int f) {
            if (c < 0 || c >= classes || f < 0 || f >= allFields[c]) {
                return NONE;
            }
            int holder = c;
            for (int i = 0; i < CLASS_LIMIT && f < allFields[holder] - ownFields[holder]; i++) {
                holder = superOf[holder];
            }
            return ownTypes[holder * OWN_FIELDS + f - (allFields[holder] - ownFields[holder])];
        }

        int inTable(int c, int name) {
            return c < 0 || c >= classes || name < 0 || name >= NAMES ? NONE : table[c * NAMES + name];
        }

        void putInTable(int c, int name, int m) {
            table[c * NAMES + name] = m;
        }

        void inheritTables() {
            for (int c = 1; c < classes; c++) {
                for (int name = 0; name < NAMES; name++) {
                    if (table[c * NAMES + name] == NONE) {
                        table[c * NAMES + name] = inTable(superOf[c], name);
                    }
                }
            }
        }

        boolean isOf(int c, int above) {
            int now = c;
            for (int i = 0; i < CLASS_LIMIT && now > above; i++) {
                now = superOf[now];
            }
            return now == above;
        }

        /** A class above has the lower number, so the higher one of two goes up until both meet. */
        int nearestAbove(int a, int b) {
            int first = a;
            int second = b;
            for (int i = 0; i < 2 * CLASS_LIMIT && first != second; i++) {
                if (first > second) {
                    first = superOf[first];
                } else {
                    second = superOf[second];
                }
            }
            return first;
        }
    }

    /** Reads the tape into an image, up to the first byte that can't be so. */
    private static final class Reader {
        private static final int NO_CLASS = 255;

        private int at;
        private boolean isWrong;
        private Image image;

        /** The byte at which the FORM is wrong, or NONE. */
        int readImage(Image toRead) {
            at = 0;
            isWrong = false;
            image = toRead;
            image.clear();
            next(202, 202);
            next(254, 254);
            int classes = next(2, CLASS_LIMIT);
            image.classes = classes;
            for (int c = 0; c < classes && !isWrong; c++) {
                readClass(c);
            }
            int methods = next(1, METHOD_LIMIT);
            for (int m = 0; m < methods && !isWrong; m++) {
                readMethod(m);
            }
            image.inheritTables();
            return isWrong || at < image.length ? at : NONE;
        }

        private int peek() {
            return at < image.length ? image.byteAt(at) : NONE;
        }

        /** Once a byte was wrong no other one is read, and the lowest value stands for all that would follow. */
        private int next(int lowest, int highest) {
            int value = peek();
            if (isWrong || value < lowest || value > highest) {
                isWrong = true;
                return lowest;
            }
            at++;
            return value;
        }

        private int noClass() {
            next(NO_CLASS, NO_CLASS);
            return NONE;
        }

        private int nextType() {
            return next(INT, FIRST_CLASS + image.classes - 1);
        }

        private void readClass(int c) {
            int above = c == 0 ? noClass() : next(0, c == TRAPS_CLASS ? 0 : c - 1);
            int own = next(c == TRAPS_CLASS ? 1 : 0, c == 0 ? 0 : Image.OWN_FIELDS);
            image.setClass(c, above, own);
            for (int f = 0; f < own; f++) {
                image.setOwnType(c, f, c == TRAPS_CLASS && f == 0 ? next(INT, INT) : nextType());
            }
        }

        private void readMethod(int m) {
            Method ahead = image.methodAt(m - 1);
            Method method = image.addMethod();
            if (method == null) {
                return;
            }
            method.owner = next(ahead == null ? 0 : ahead.owner, image.classes - 1);
            method.name = nextName(m, method.owner);
            method.isStatic = next(0, 1) == 1;
            Method over = method.isStatic ? null : overridden(method);
            readParameters(method, over);
            method.result = nextResult(over);
            method.locals = next(method.wordsTaken(), LOCAL_LIMIT);
            method.length = next(1, CODE_LIMIT);
            readHandlers(method);
            if (!isWrong && !method.isStatic) {
                image.putInTable(method.owner, method.name, m);
            }
            readCode(method);
        }

        private int nextName(int m, int owner) {
            int name = peek();
            for (int i = 0; i < m; i++) {
                Method other = image.methodAt(i);
                if (other != null && other.owner == owner && other.name == name) {
                    isWrong = true;
                }
            }
            return next(0, NAMES - 1);
        }

        /** While reading, the table of a class has its own METHODS alone, so all classes above are asked. */
        private Method overridden(Method method) {
            int c = image.superOf[method.owner];
            for (int i = 0; i < CLASS_LIMIT && c != NONE; i++) {
                int m = image.inTable(c, method.name);
                if (m != NONE) {
                    return image.methodAt(m);
                }
                c = image.superOf[c];
            }
            return null;
        }

        private void readParameters(Method method, Method over) {
            method.params = over == null ? next(0, 5) : next(over.params, over.params);
            for (int i = 0; i < method.params; i++) {
                method.types[i] = over == null ? nextType() : next(over.types[i], over.types[i]);
            }
        }

        private int nextResult(Method over) {
            boolean isNone = over == null ? peek() == NO_CLASS : over.result == NONE;
            if (isNone) {
                return noClass();
            }
            return over == null ? nextType() : next(over.result, over.result);
        }

        private void readHandlers(Method method) {
            method.handlers = next(0, 4);
            for (int i = 0; i < method.handlers; i++) {
                method.from[i] = next(0, method.length - 1);
                method.to[i] = next(method.from[i] + 1, method.length);
                method.target[i] = next(0, method.length - 1);
                method.caught[i] = next(0, image.classes - 1);
            }
        }

        private void readCode(Method method) {
            if (isWrong) {
                return;
            }
            if (image.length - at < method.length) {
                isWrong = true;
                at = image.length;
                return;
            }
            method.codeAt = at;
            at += method.length;
        }
    }

    /** Verifies an image by the flow of its data. */
    private static final class Verifier {
        private static final int ANY = 20;
        private static final int REFERENCE = 21;
        private static final int OBJECT = 22;
        private static final int ROUNDS = 1000000;

        int why;
        int where;
        private Image image;
        private int number;
        private Method method;
        private final States states = new States();
        private final boolean[] isPlace = new boolean[CODE_LIMIT];
        private final boolean[] isToDo = new boolean[CODE_LIMIT];
        private int firstToDo;
        private int size;
        private final int[] types = new int[PUSH_LIMIT + 2];
        private final int[] locals = new int[LOCAL_LIMIT];
        private final int[] caught = new int[1];

        /** The first METHOD that is WRONG, or NONE; why and where tell more of it. */
        int firstWrong(Image toVerify) {
            for (int m = 0; m < toVerify.methodCount; m++) {
                verify(toVerify, m);
                if (why != 0) {
                    return m;
                }
            }
            return NONE;
        }

        /** There is room for the STATES of one METHOD, so those of any but the latest are worked out again. */
        States statesOf(Image verified, int m) {
            if (image != verified || number != m) {
                verify(verified, m);
            }
            return states;
        }

        private void verify(Image toVerify, int m) {
            image = toVerify;
            number = m;
            method = image.methodAt(m);
            why = 0;
            where = NONE;
            if (method == null) {
                return;
            }
            walkInstructions();
            if (why == 0) {
                walkTargets();
            }
            if (why == 0) {
                setFirstState();
            }
            for (int round = 0; round < ROUNDS && why == 0 && firstToDo < method.length; round++) {
                isToDo[firstToDo] = false;
                method.timesDone++;
                doPlace(firstToDo);
                findToDo();
            }
        }

        private void refuse(int reason, int place) {
            why = reason;
            where = place;
        }

        private int byteAt(int place) {
            return image.byteAt(method.codeAt + place);
        }

        private int lengthAt(int place) {
            int op = byteAt(place);
            int more = op == SWITCH ? byteAt(place + 2) : 0;
            return op > OUT ? 1 : LENGTHS[op] + more;
        }

        private void walkInstructions() {
            for (int i = 0; i < CODE_LIMIT; i++) {
                isPlace[i] = false;
            }
            int place = 0;
            for (int i = 0; i < CODE_LIMIT && place < method.length; i++) {
                if (byteAt(place) > OUT) {
                    refuse(1, place);
                    return;
                }
                if (place + lengthAt(place) > method.length || !areOperands(place)) {
                    refuse(2, place);
                    return;
                }
                isPlace[place] = true;
                place += lengthAt(place);
            }
        }

        private boolean areOperands(int place) {
            int operand = byteAt(place + 1);
            switch (byteAt(place)) {
                case LOAD:
                case STORE:
                case INC:
                    return operand < method.locals;
                case SWITCH:
                    return byteAt(place + 2) >= 1 && byteAt(place + 2) <= 8;
                case NEW:
                case CAST:
                case IS:
                    return operand < image.classes;
                case GET:
                case PUT:
                    return image.fieldType(operand, byteAt(place + 2)) != NONE;
                case CALL_STATIC:
                    return isMethod(operand, true);
                case CALL_TABLE:
                case CALL_EXACTLY:
                    return isMethod(operand, false);
                default:
                    return true;
            }
        }

        private boolean isMethod(int m, boolean isStatic) {
            Method called = image.methodAt(m);
            return called != null && called.isStatic == isStatic;
        }

        private void walkTargets() {
            for (int place = 0; place < method.length; place++) {
                int targets = isPlace[place] ? targetsAt(place) : 0;
                for (int i = 0; i < targets; i++) {
                    if (!isTarget(targetOf(place, i))) {
                        refuse(3, place);
                        return;
                    }
                }
            }
            for (int i = 0; i < method.handlers; i++) {
                if (!isTarget(method.target[i])) {
                    refuse(3, method.target[i]);
                    return;
                }
            }
        }

        private boolean isTarget(int place) {
            return place < method.length && isPlace[place];
        }

        private int targetsAt(int place) {
            int op = byteAt(place);
            if (op == SWITCH) {
                return 1 + byteAt(place + 2);
            }
            return op >= JUMP && op < SWITCH ? 1 : 0;
        }

        private int targetOf(int place, int i) {
            return byteAt(byteAt(place) == SWITCH ? place + 3 + i : place + 1);
        }

        private void setFirstState() {
            states.clear();
            for (int place = 0; place < CODE_LIMIT; place++) {
                isToDo[place] = false;
            }
            method.stated = 0;
            method.timesDone = 0;
            for (int i = 0; i < method.locals; i++) {
                locals[i] = i < method.wordsTaken() ? method.typeTaken(i) : NOTHING;
            }
            come(0, 0, types, 0);
        }

        private void findToDo() {
            while (firstToDo < method.length && !isToDo[firstToDo]) {
                firstToDo++;
            }
        }

        private void doPlace(int place) {
            takeState(place);
            int op = byteAt(place);
            int taken = wordsTaken(op, place);
            if (size < taken) {
                refuse(4, place);
            } else if (!fitsAll(op, place, taken)) {
                refuse(5, place);
            } else {
                size -= taken;
                giveTypes(op, place);
                if (size > PUSH_LIMIT) {
                    refuse(6, place);
                } else {
                    goOn(op, place);
                }
            }
        }

        private void takeState(int place) {
            size = Math.max(0, Math.min(PUSH_LIMIT, states.sizeAt(place)));
            for (int i = 0; i < size; i++) {
                types[i] = states.typeAt(place, LOCAL_LIMIT + i);
            }
            for (int i = 0; i < method.locals; i++) {
                locals[i] = states.typeAt(place, i);
            }
        }

        private int wordsTaken(int op, int place) {
            if (isCall(op)) {
                Method called = image.methodAt(byteAt(place + 1));
                return called == null ? 0 : called.wordsTaken();
            }
            return TAKES[op];
        }

        private boolean fitsAll(int op, int place, int taken) {
            for (int i = 0; i < taken; i++) {
                if (!fits(types[size - taken + i], wanted(op, place, i))) {
                    return false;
                }
            }
            switch (op) {
                case LOAD: return locals[byteAt(place + 1)] != NOTHING;
                case INC: return locals[byteAt(place + 1)] == INT;
                case RETURN: return method.result == NONE;
                case RETURN_VALUE: return method.result != NONE;
                default: return true;
            }
        }

        private boolean fits(int type, int want) {
            switch (want) {
                case ANY: return true;
                case REFERENCE: return type != INT;
                case OBJECT: return type >= FIRST_CLASS && type <= NULL;
                case INT: return type == INT;
                case ROW: return type == ROW || type == NULL;
                default: return type == NULL || isClass(type) && image.isOf(type - FIRST_CLASS, want - FIRST_CLASS);
            }
        }

        private static boolean isClass(int type) {
            return type >= FIRST_CLASS && type < NULL;
        }

        private int wanted(int op, int place, int i) {
            int operand = byteAt(place + 1);
            switch (op) {
                case STORE:
                case POP:
                case DUP:
                case SWAP:
                    return ANY;
                case JUMP_IF_NULL:
                case JUMP_IF_NOT_NULL:
                case JUMP_IF_SAME:
                case JUMP_IF_OTHER:
                    return REFERENCE;
                case SIZE:
                case GET_AT:
                case PUT_AT:
                    return i == 0 ? ROW : INT;
                case GET:
                case PUT:
                    return i == 0 ? FIRST_CLASS + operand : image.fieldType(operand, byteAt(place + 2));
                case CALL_STATIC:
                case CALL_TABLE:
                case CALL_EXACTLY:
                    return wantedByCall(operand, i);
                case RETURN_VALUE:
                    return method.result == NONE ? ANY : method.result;
                case THROW:
                case CAST:
                case IS:
                    return OBJECT;
                default:
                    return INT;
            }
        }

        private int wantedByCall(int m, int i) {
            Method called = image.methodAt(m);
            return called == null ? ANY : called.typeTaken(i);
        }

        private void give(int type) {
            if (size < types.length) {
                types[size] = type;
            }
            size++;
        }

        /** What was taken still stands behind the pile's end. */
        private void giveTypes(int op, int place) {
            int operand = byteAt(place + 1);
            int first = types[size];
            if (op == PUSH_NULL) {
                give(NULL);
            } else if (op == LOAD) {
                give(locals[operand]);
            } else if (op == STORE) {
                locals[operand] = first;
            } else if (op == DUP) {
                give(first);
                give(first);
            } else if (op == SWAP) {
                give(types[size + 1]);
                give(first);
            } else if (op == NEW || op == CAST) {
                give(FIRST_CLASS + operand);
            } else if (op == NEW_ROW) {
                give(ROW);
            } else if (op == GET) {
                give(image.fieldType(operand, byteAt(place + 2)));
            } else if (isCall(op)) {
                Method called = image.methodAt(operand);
                if (called != null && called.result != NONE) {
                    give(called.result);
                }
            } else if (givesInt(op)) {
                give(INT);
            }
        }

        private static boolean isCall(int op) {
            return op == CALL_STATIC || op == CALL_TABLE || op == CALL_EXACTLY;
        }

        private static boolean givesInt(int op) {
            switch (op) {
                case PUSH_BYTE:
                case PUSH_WORD:
                case SIZE:
                case GET_AT:
                case IS:
                case IN:
                    return true;
                default:
                    return op >= PLUS && op <= TO_SHORT;
            }
        }

        private static boolean canThrow(int op) {
            switch (op) {
                case DIVIDE:
                case REST:
                case THROW:
                case CAST:
                case IN:
                    return true;
                default:
                    return op >= NEW_ROW && op <= CALL_EXACTLY;
            }
        }

        private static boolean goesBehind(int op) {
            switch (op) {
                case JUMP:
                case SWITCH:
                case RETURN:
                case RETURN_VALUE:
                case THROW:
                    return false;
                default:
                    return true;
            }
        }

        private void goOn(int op, int place) {
            int handlers = canThrow(op) ? method.handlers : 0;
            for (int i = 0; i < handlers && why == 0; i++) {
                if (method.isCovered(i, place)) {
                    caught[0] = FIRST_CLASS + method.caught[i];
                    come(place, method.target[i], caught, 1);
                }
            }
            if (why == 0 && goesBehind(op)) {
                int behind = place + lengthAt(place);
                if (behind >= method.length) {
                    refuse(7, place);
                } else {
                    come(place, behind, types, size);
                }
            }
            int targets = targetsAt(place);
            for (int i = 0; i < targets && why == 0; i++) {
                come(place, targetOf(place, i), types, size);
            }
        }

        /** Brings the LOCALS and a pile from a PLACE to another one. */
        private void come(int place, int target, int[] pile, int pileSize) {
            int known = states.sizeAt(target);
            if (known == NONE) {
                setState(target, pile, pileSize);
                setToDo(target);
                return;
            }
            if (known != pileSize) {
                refuse(8, place);
                return;
            }
            boolean isOther = false;
            for (int i = 0; i < method.locals + pileSize; i++) {
                boolean isLocal = i < method.locals;
                int slot = isLocal ? i : LOCAL_LIMIT + i - method.locals;
                int old = states.typeAt(target, slot);
                int type = joined(old, isLocal ? locals[i] : pile[i - method.locals]);
                if (type == NOTHING && !isLocal) {
                    refuse(8, place);
                    return;
                }
                if (type != old) {
                    states.setType(target, slot, type);
                    isOther = true;
                }
            }
            if (isOther) {
                setToDo(target);
            }
        }

        private void setState(int place, int[] pile, int pileSize) {
            method.stated++;
            states.setSize(place, pileSize);
            for (int i = 0; i < method.locals; i++) {
                states.setType(place, i, locals[i]);
            }
            for (int i = 0; i < pileSize; i++) {
                states.setType(place, LOCAL_LIMIT + i, pile[i]);
            }
        }

        private void setToDo(int place) {
            isToDo[place] = true;
            firstToDo = Math.min(firstToDo, place);
        }

        private int joined(int a, int b) {
            if (a == b || b == NULL && a != INT) {
                return a;
            }
            if (a == NULL && b != INT) {
                return b;
            }
            if (isClass(a) && isClass(b)) {
                return FIRST_CLASS + image.nearestAbove(a - FIRST_CLASS, b - FIRST_CLASS);
            }
            return NOTHING;
        }
    }

    /** The PILE, with the RAM that its top lies in. */
    private static final class Pile {
        private final int[] values = new int[PILE_LIMIT];
        private final boolean[] references = new boolean[PILE_LIMIT];
        private final int ram;
        private final Meter meter;
        int size;
        int low;
        int spills;
        int fills;
        boolean tookReference;

        Pile(int ram, Meter meter) {
            this.ram = ram;
            this.meter = meter;
        }

        void clear() {
            size = 0;
            low = 0;
            spills = 0;
            fills = 0;
        }

        void push(int value, boolean isReference) {
            if (size >= PILE_LIMIT) {
                return;
            }
            values[size] = value;
            references[size] = isReference;
            size++;
            if (size - low > ram) {
                low++;
                spills++;
                meter.cycles++;
            }
        }

        int take() {
            if (size == 0) {
                return 0;
            }
            endAt(size - 1);
            tookReference = references[size];
            return values[size];
        }

        void endAt(int newSize) {
            if (newSize < 0 || newSize > size) {
                return;
            }
            size = newSize;
            if (size < low) {
                low = size;
                fills++;
                meter.cycles++;
            }
        }

        int fromTop(int depth) {
            return valueAt(size - 1 - depth);
        }

        int valueAt(int i) {
            return i < 0 || i >= size ? 0 : values[i];
        }

        boolean isReferenceAt(int i) {
            return i >= 0 && i < size && references[i];
        }

        void put(int i, int value, boolean isReference) {
            if (i >= 0 && i < size) {
                values[i] = value;
                references[i] = isReference;
            }
        }

        /** A word that is used where it lies costs more below the RAM. */
        void reach(int i) {
            if (i < low) {
                meter.cycles += 2;
            }
        }
    }

    /** The CACHE of whole METHODS. */
    private static final class Cache {
        final int[] owners;
        private final Meter meter;
        int next;
        int hits;
        int misses;

        Cache(int blocks, Meter meter) {
            owners = new int[blocks];
            this.meter = meter;
        }

        void clear() {
            Arrays.fill(owners, NONE);
            next = 0;
            hits = 0;
            misses = 0;
        }

        void seek(int m, int length) {
            for (int i = 0; i < owners.length; i++) {
                if (owners[i] == m) {
                    hits++;
                    meter.cycles++;
                    return;
                }
            }
            int blocks = (length + 15) / 16;
            misses++;
            meter.cycles += 3 + 4 * blocks;
            if (blocks > owners.length) {
                Arrays.fill(owners, NONE);
                next = 0;
                return;
            }
            for (int i = 0; i < blocks; i++) {
                forget(owners[next]);
                owners[next] = m;
                next = next + 1 == owners.length ? 0 : next + 1;
            }
        }

        private void forget(int m) {
            for (int i = 0; i < owners.length; i++) {
                if (owners[i] == m) {
                    owners[i] = NONE;
                }
            }
        }
    }

    /** What a HANDLE stands for; its owner is NONE while it is free. */
    private static final class Handle {
        int owner;
        int words;
        int at;
        int space;
        int colour;
    }

    /** The HEAP with its two SPACES and the collector. */
    private static final class Heap {
        static final int WHITE = 0;
        static final int GREY = 1;
        static final int BLACK = 2;
        private static final int STEP_LIMIT = 1000000;

        private final int[][] spaces;
        private final int spaceWords;
        private final Meter meter;
        private Image image;
        final Handle[] handles = new Handle[HANDLES + 1];
        private final int[] greys = new int[HANDLES];
        private int firstGrey;
        private int endOfGreys;
        private int copying;
        private int copied;
        private int copyAt;
        int count;
        int space;
        int used;
        int top;
        int left;
        int steps;
        int collections;
        boolean goesOn;

        Heap(int spaceWords, Meter meter) {
            spaces = new int[2][spaceWords];
            this.spaceWords = spaceWords;
            this.meter = meter;
            for (int h = 0; h <= HANDLES; h++) {
                handles[h] = new Handle();
                free(handles[h]);
            }
        }

        void clear(Image newImage) {
            image = newImage;
            for (int h = 0; h <= HANDLES; h++) {
                free(handles[h]);
            }
            count = 0;
            space = 0;
            used = 0;
            top = 0;
            left = 0;
            steps = 0;
            collections = 0;
            goesOn = false;
        }

        /** No free HANDLE is WHITE, so that a colour alone tells what a COLLECTION may still want. */
        private static void free(Handle handle) {
            handle.owner = NONE;
            handle.colour = BLACK;
        }

        boolean isTaken(int h) {
            return h >= 1 && h <= HANDLES && handles[h].owner != NONE;
        }

        int ownerOf(int h) {
            return isTaken(h) ? handles[h].owner : NONE;
        }

        int wordsOf(int h) {
            return isTaken(h) ? handles[h].words : 0;
        }

        int read(int h, int i) {
            return i < 0 || i >= wordsOf(h) ? 0 : spaces[handles[h].space][handles[h].at + i];
        }

        void write(int h, int i, int value, boolean isReference) {
            if (i < 0 || i >= wordsOf(h)) {
                return;
            }
            Handle handle = handles[h];
            if (goesOn && isReference) {
                makeGrey(spaces[handle.space][handle.at + i]);
            }
            spaces[handle.space][handle.at + i] = value;
            if (goesOn && h == copying && i < copied) {
                spaces[1 - space][copyAt + i] = value;
            }
        }

        boolean isOverHalf() {
            return used > spaceWords / 2;
        }

        /** The words are summed as a long since a ROW of any size may be asked for. */
        private boolean isThere(int words) {
            long before = goesOn ? (long) top + left : used;
            return count < HANDLES && before + words <= spaceWords;
        }

        /** The HANDLE of what is made, or 0 if there is no room for it. */
        int allot(int owner, int words, Pile pile) {
            if (!isThere(words)) {
                endCollection();
                if (!isThere(words)) {
                    startCollection(pile);
                    endCollection();
                }
            }
            int h = 1;
            while (h < HANDLES && isTaken(h)) {
                h++;
            }
            if (!isThere(words) || isTaken(h)) {
                return 0;
            }
            Handle handle = handles[h];
            handle.owner = owner;
            handle.words = words;
            handle.colour = BLACK;
            handle.space = goesOn ? 1 - space : space;
            handle.at = goesOn ? top : used;
            Arrays.fill(spaces[handle.space], handle.at, handle.at + words, 0);
            if (goesOn) {
                top += words;
            } else {
                used += words;
            }
            count++;
            return h;
        }

        void startCollection(Pile pile) {
            goesOn = true;
            collections++;
            top = 0;
            left = 0;
            firstGrey = 0;
            endOfGreys = 0;
            copying = 0;
            for (int h = 1; h <= HANDLES; h++) {
                if (isTaken(h)) {
                    handles[h].colour = WHITE;
                    left += handles[h].words;
                }
            }
            for (int i = 0; i < pile.size; i++) {
                if (pile.isReferenceAt(i)) {
                    makeGrey(pile.valueAt(i));
                }
            }
        }

        private void endCollection() {
            for (int i = 0; i < STEP_LIMIT && goesOn; i++) {
                makeStep();
            }
        }

        private void makeGrey(int h) {
            if (h >= 1 && h <= HANDLES && handles[h].colour == WHITE && endOfGreys < greys.length) {
                handles[h].colour = GREY;
                greys[endOfGreys] = h;
                endOfGreys++;
            }
        }

        void makeStep() {
            steps++;
            meter.cycles++;
            if (copying != 0) {
                copyWord();
            } else if (firstGrey < endOfGreys) {
                copyNextGrey();
            } else {
                turnSpaces();
            }
        }

        private void copyWord() {
            Handle handle = handles[copying];
            int value = spaces[space][handle.at + copied];
            spaces[1 - space][copyAt + copied] = value;
            left--;
            if (handle.owner != ROW_OWNER && image.fieldType(handle.owner, copied) != INT) {
                makeGrey(value);
            }
            copied++;
            if (copied == handle.words) {
                land(handle);
            }
        }

        private void copyNextGrey() {
            copying = greys[firstGrey];
            firstGrey++;
            copied = 0;
            copyAt = top;
            top += handles[copying].words;
            if (handles[copying].words == 0) {
                land(handles[copying]);
            }
        }

        private void land(Handle handle) {
            handle.at = copyAt;
            handle.space = 1 - space;
            handle.colour = BLACK;
            copying = 0;
        }

        private void turnSpaces() {
            for (int h = 1; h <= HANDLES; h++) {
                if (handles[h].colour == WHITE) {
                    free(handles[h]);
                    count--;
                }
            }
            space = 1 - space;
            used = top;
            goesOn = false;
        }
    }

    /** Runs a verified image. */
    private static final class Machine {
        final Meter meter;
        final Pile pile;
        final Cache cache;
        final Heap heap;
        private final int pace;
        private Image image;
        final int[] input = new int[INPUT_LIMIT];
        int inputs;
        int inputsTaken;
        final int[] output = new int[OUTPUT_LIMIT];
        int outputs;
        int status;
        int result;
        int done;
        int number;
        private Method method;
        int place;
        int base;
        private int next;
        private boolean hasMade;

        Machine(int blocks, int ram, int spaceWords, int pace) {
            meter = new Meter();
            pile = new Pile(ram, meter);
            cache = new Cache(blocks, meter);
            heap = new Heap(spaceWords, meter);
            this.pace = pace;
            cache.clear();
        }

        void clear(Image newImage) {
            image = newImage;
            meter.cycles = 0;
            pile.clear();
            cache.clear();
            heap.clear(newImage);
            inputsTaken = 0;
            outputs = 0;
            status = NO_RUN;
            result = 0;
            done = 0;
        }

        void startRun(int m, Method first, int a, int b) {
            status = RUNS;
            if (first.params > 0) {
                pile.push(a, false);
            }
            if (first.params > 1) {
                pile.push(b, false);
            }
            base = 0;
            number = NONE;
            next = 0;
            enter(m, first, 0);
            place = 0;
        }

        /** A FRAME of which the words that the CALL took lie on the PILE already. */
        private void enter(int m, Method called, int newBase) {
            for (int i = pile.size - newBase; i < called.locals; i++) {
                pile.push(0, false);
            }
            pile.push(number, false);
            pile.push(next, false);
            pile.push(base, false);
            base = newBase;
            number = m;
            method = called;
            next = 0;
            cache.seek(m, called.length);
        }

        void step() {
            int op = Math.min(OUT, operand(0));
            next = place + LENGTHS[op];
            hasMade = false;
            meter.cycles += CYCLES[op];
            int trap = 0;
            if (op <= SWAP) {
                moveWord(op);
            } else if (op <= INC) {
                trap = reckon(op);
            } else if (op <= SWITCH) {
                jump(op);
            } else if (op <= NEW_ROW) {
                trap = make(op);
            } else if (op <= PUT_AT) {
                trap = useRow(op);
            } else if (op <= PUT) {
                trap = useField(op);
            } else if (op <= CALL_EXACTLY) {
                trap = call(op);
            } else if (op <= RETURN_VALUE) {
                giveBack(op);
            } else {
                trap = useObjectOrPort(op);
            }
            if (trap != 0) {
                raise(trap);
            }
            done++;
            place = next;
            if (status == RUNS) {
                collectBehind();
            }
        }

        private int operand(int i) {
            return image.byteAt(method.codeAt + place + i);
        }

        private int signedOperand(int i) {
            return (byte) operand(i);
        }

        private void collectBehind() {
            if (hasMade && !heap.goesOn && heap.isOverHalf()) {
                heap.startCollection(pile);
            }
            for (int i = 0; i < pace && heap.goesOn; i++) {
                heap.makeStep();
            }
        }

        private void moveWord(int op) {
            int local = base + operand(1);
            int value = op >= STORE ? pile.take() : 0;
            boolean isReference = pile.tookReference;
            switch (op) {
                case PUSH_BYTE:
                    pile.push(signedOperand(1), false);
                    break;
                case PUSH_WORD:
                    pile.push(signedOperand(1) * 256 + operand(2), false);
                    break;
                case PUSH_NULL:
                    pile.push(0, true);
                    break;
                case LOAD:
                    pile.reach(local);
                    pile.push(pile.valueAt(local), pile.isReferenceAt(local));
                    break;
                case STORE:
                    pile.reach(local);
                    pile.put(local, value, isReference);
                    break;
                case DUP:
                    pile.push(value, isReference);
                    pile.push(value, isReference);
                    break;
                case SWAP:
                    slipBelowNext(value, isReference);
                    break;
                default:
                    break;
            }
        }

        private void slipBelowNext(int value, boolean isReference) {
            int below = pile.take();
            boolean belowIsReference = pile.tookReference;
            pile.push(value, isReference);
            pile.push(below, belowIsReference);
        }

        private int reckon(int op) {
            if (op == INC) {
                int local = base + operand(1);
                pile.reach(local);
                pile.put(local, pile.valueAt(local) + signedOperand(2), false);
                return 0;
            }
            if ((op == DIVIDE || op == REST) && pile.fromTop(0) == 0) {
                return TRAP_DIVISOR;
            }
            int last = pile.take();
            pile.push(op >= NEGATE ? ofOne(op, last) : ofTwo(op, pile.take(), last), false);
            return 0;
        }

        private static int ofOne(int op, int a) {
            switch (op) {
                case NEGATE: return -a;
                case TO_BYTE: return (byte) a;
                case TO_CHAR: return a & 0xFFFF;
                default: return (short) a;
            }
        }

        private static int ofTwo(int op, int a, int b) {
            switch (op) {
                case PLUS: return a + b;
                case MINUS: return a - b;
                case TIMES: return a * b;
                case DIVIDE: return b == 0 ? 0 : a / b;
                case REST: return b == 0 ? 0 : a % b;
                case AND: return a & b;
                case OR: return a | b;
                case XOR: return a ^ b;
                case LEFT: return a << b;
                case RIGHT: return a >> b;
                default: return a >>> b;
            }
        }

        private void jump(int op) {
            int last = op == JUMP ? 0 : pile.take();
            if (op == SWITCH) {
                int chosen = last - signedOperand(1);
                boolean isThere = chosen >= 0 && chosen < operand(2);
                jumpTo(operand(isThere ? 4 + chosen : 3));
                return;
            }
            boolean isDone = true;
            if (op >= JUMP_IF_SAME) {
                isDone = (pile.take() == last) == (op == JUMP_IF_SAME);
            } else if (op >= JUMP_IF_NULL) {
                isDone = (last == 0) == (op == JUMP_IF_NULL);
            } else if (op >= JUMP_IF_INTS) {
                isDone = isSo(op - JUMP_IF_INTS, pile.take(), last);
            } else if (op >= JUMP_IF_ZERO) {
                isDone = isSo(op - JUMP_IF_ZERO, last, 0);
            }
            if (isDone) {
                jumpTo(operand(1));
            }
        }

        private void jumpTo(int target) {
            meter.cycles += 2;
            next = target;
        }

        private static boolean isSo(int relation, int a, int b) {
            switch (relation) {
                case 0: return a == b;
                case 1: return a != b;
                case 2: return a < b;
                case 3: return a >= b;
                case 4: return a > b;
                default: return a <= b;
            }
        }

        private int make(int op) {
            if (op == NEW_ROW && pile.fromTop(0) < 0) {
                return TRAP_SIZE;
            }
            int owner = op == NEW ? operand(1) : ROW_OWNER;
            int words = op == NEW ? image.fieldsOf(owner) : pile.take();
            meter.cycles += words;
            int h = heap.allot(owner, words, pile);
            if (h == 0) {
                status = ROOM;
            } else {
                hasMade = true;
                pile.push(h, true);
            }
            return 0;
        }

        private int useRow(int op) {
            if (op == GET_AT) {
                return getAt();
            }
            if (op == PUT_AT) {
                return putAt();
            }
            if (pile.fromTop(0) == 0) {
                return TRAP_NULL;
            }
            pile.push(heap.wordsOf(pile.take()), false);
            return 0;
        }

        private int trapOfPlace(int row, int i) {
            if (row == 0) {
                return TRAP_NULL;
            }
            return i < 0 || i >= heap.wordsOf(row) ? TRAP_OUTSIDE : 0;
        }

        private int getAt() {
            int trap = trapOfPlace(pile.fromTop(1), pile.fromTop(0));
            if (trap == 0) {
                int i = pile.take();
                pile.push(heap.read(pile.take(), i), false);
            }
            return trap;
        }

        private int putAt() {
            int trap = trapOfPlace(pile.fromTop(2), pile.fromTop(1));
            if (trap == 0) {
                int value = pile.take();
                int i = pile.take();
                heap.write(pile.take(), i, value, false);
            }
            return trap;
        }

        private int useField(int op) {
            int field = operand(2);
            boolean isReference = image.fieldType(operand(1), field) != INT;
            if (pile.fromTop(op == GET ? 0 : 1) == 0) {
                return TRAP_NULL;
            }
            if (op == GET) {
                pile.push(heap.read(pile.take(), field), isReference);
            } else {
                int value = pile.take();
                heap.write(pile.take(), field, value, isReference);
            }
            return 0;
        }

        private int call(int op) {
            int m = operand(1);
            Method called = image.methodAt(m);
            if (called == null) {
                return 0;
            }
            int newBase = pile.size - called.wordsTaken();
            int object = pile.valueAt(newBase);
            if (op != CALL_STATIC && object == 0) {
                return TRAP_NULL;
            }
            if (op == CALL_TABLE) {
                m = image.inTable(heap.ownerOf(object), called.name);
                called = image.methodAt(m);
            }
            if (called == null || newBase + called.locals + FRAME_WORDS + PUSH_LIMIT > PILE_LIMIT) {
                status = STACK;
                return 0;
            }
            enter(m, called, newBase);
            return 0;
        }

        private void giveBack(int op) {
            int value = op == RETURN_VALUE ? pile.take() : 0;
            boolean isReference = pile.tookReference;
            int link = base + method.locals;
            if (pile.valueAt(link) == NONE) {
                status = RETURNED;
                result = value;
                return;
            }
            pile.reach(link);
            pile.reach(link + 1);
            pile.reach(link + 2);
            next = pile.valueAt(link + 1);
            goBack(link);
            if (op == RETURN_VALUE) {
                pile.push(value, isReference);
            }
            cache.seek(number, method.length);
        }

        /** The FRAME goes, and the one that called is the machine's again. */
        private void goBack(int link) {
            int caller = pile.valueAt(link);
            int callersBase = pile.valueAt(link + 2);
            pile.endAt(base);
            Method calling = image.methodAt(caller);
            if (calling != null) {
                number = caller;
                method = calling;
                base = callersBase;
            }
        }

        private int useObjectOrPort(int op) {
            switch (op) {
                case THROW:
                    if (pile.fromTop(0) == 0) {
                        return TRAP_NULL;
                    }
                    throwObject(pile.take());
                    return 0;
                case CAST:
                    return cast();
                case IS:
                    pile.push(isOfClass(pile.take()) ? 1 : 0, false);
                    return 0;
                case IN:
                    return takeInput();
                default:
                    emit(pile.take());
                    return 0;
            }
        }

        private int takeInput() {
            if (inputsTaken >= inputs || inputsTaken >= INPUT_LIMIT) {
                return TRAP_INPUT;
            }
            pile.push(input[inputsTaken], false);
            inputsTaken++;
            return 0;
        }

        private int cast() {
            if (pile.fromTop(0) != 0 && !isOfClass(pile.fromTop(0))) {
                return TRAP_CAST;
            }
            pile.push(pile.take(), true);
            return 0;
        }

        private boolean isOfClass(int object) {
            int c = heap.ownerOf(object);
            int wanted = operand(1);
            for (int i = 0; i < CLASS_LIMIT && c > 0 && c != wanted; i++) {
                c = image.superOf[c];
                meter.cycles++;
            }
            return c == wanted;
        }

        private void emit(int value) {
            if (outputs < OUTPUT_LIMIT) {
                output[outputs] = value;
                outputs++;
            }
        }

        private void raise(int trap) {
            int words = image.fieldsOf(TRAPS_CLASS);
            meter.cycles += 7 + words;
            int h = heap.allot(TRAPS_CLASS, words, pile);
            if (h == 0) {
                status = ROOM;
                return;
            }
            hasMade = true;
            heap.write(h, 0, trap, false);
            throwObject(h);
        }

        private void throwObject(int h) {
            int at = place;
            for (int frames = 0; frames < PILE_LIMIT; frames++) {
                int handler = handlerFor(h, at);
                int link = base + method.locals;
                if (handler != NONE) {
                    pile.endAt(link + FRAME_WORDS);
                    pile.push(h, true);
                    meter.cycles += 2;
                    next = method.target[handler];
                    cache.seek(number, method.length);
                    return;
                }
                meter.cycles += 3;
                at = pile.valueAt(link + 1) - CALL_LENGTH;
                boolean isFirst = pile.valueAt(link) == NONE;
                goBack(link);
                if (isFirst) {
                    status = THROWN;
                    result = h;
                    return;
                }
            }
        }

        private int handlerFor(int h, int at) {
            for (int i = 0; i < method.handlers; i++) {
                if (method.isCovered(i, at) && image.isOf(heap.ownerOf(h), method.caught[i])) {
                    return i;
                }
            }
            return NONE;
        }
    }
}
