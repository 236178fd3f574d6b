import java.util.ArrayList;
import java.util.List;

/** Writes images for tests: classes and methods in the order in which they are told. */
final class Images extends Ops {
    private final List<Integer> classes = new ArrayList<>();
    private final List<Integer> methods = new ArrayList<>();
    private int classCount;
    private int methodCount;

    Images klass(int above, int... types) {
        classCount++;
        classes.add(above);
        classes.add(types.length);
        addAll(classes, types);
        return this;
    }

    /** Class 0 and the TRAPS with their one field. */
    static Images plain() {
        return new Images().klass(NO).klass(0, 0);
    }

    private static void addAll(List<Integer> list, int... values) {
        for (int v : values) {
            list.add(v & 255);
        }
    }

    Images method(int klass, int name, int isStatic, int[] params, int result, int locals, int[] code, int[]... handlers) {
        methodCount++;
        addAll(methods, klass, name, isStatic, params.length);
        addAll(methods, params);
        addAll(methods, result, locals, code.length, handlers.length);
        for (int[] h : handlers) {
            addAll(methods, h);
        }
        addAll(methods, code);
        return this;
    }

    /** A static method of class 0. */
    Images main(int name, int[] params, int result, int locals, int[] code, int[]... handlers) {
        return method(0, name, 1, params, result, locals, code, handlers);
    }

    int[] bytes() {
        List<Integer> all = new ArrayList<>(List.of(202, 254, classCount));
        all.addAll(classes);
        all.add(methodCount);
        all.addAll(methods);
        return all.stream().mapToInt(x -> x).toArray();
    }

    static void feed(ByteProcessor x, int... bytes) {
        x.end(0);
        for (int at = 0; at < bytes.length; at += 20) {
            int[] v = new int[5];
            for (int i = 0; i < 20; i++) {
                v[i / 4] = v[i / 4] << 8 | (at + i < bytes.length ? bytes[at + i] & 255 : 0);
            }
            x.feed(v[0], v[1], v[2], v[3], v[4]);
        }
        x.end(bytes.length);
    }

    int loadInto(ByteProcessor x) {
        feed(x, bytes());
        return x.load();
    }

    /** A processor with much room of everything and no steps of the collector. */
    ByteProcessor loaded() {
        return loaded(16, 64, 256, 0);
    }

    ByteProcessor loaded(int k, int ram, int w, int pace) {
        ByteProcessor x = new ByteProcessor(k, ram, w, pace);
        int answer = loadInto(x);
        if (answer != 0) {
            throw new IllegalStateException("load answered " + answer + ": byte " + x.fault(1) + ", method " + x.fault(2)
                + ", why " + x.fault(3) + ", at " + x.fault(4));
        }
        return x;
    }
}
