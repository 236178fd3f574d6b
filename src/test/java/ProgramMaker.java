import java.util.ArrayList;
import java.util.List;
import java.util.Random;

/**
 * Makes images by chance that are mostly right: each local has a type that it keeps, each value pushed is known, and
 * jumps only join piles of the same types.
 */
final class ProgramMaker {
    private static final int INT = 0;
    private static final int ROW = 1;

    private final Random chance;
    private int[] supers;
    private List<List<Integer>> own;
    private List<List<Integer>> all;
    private final List<Shape> shapes = new ArrayList<>();

    /** What callers know of a method. */
    private static final class Shape {
        int klass;
        int name;
        boolean isStatic;
        List<Integer> params = new ArrayList<>();
        int result;
        int locals;
    }

    private static final class Pending {
        int operandAt;
        List<Integer> pile;
    }

    private static final class Loop {
        int place;
        int counter;
        List<Integer> pile;
    }

    /** The code of one method as it grows. */
    private final class Body {
        final Shape shape;
        final List<Integer> code = new ArrayList<>();
        final List<Integer> pile = new ArrayList<>();
        final List<Integer> types = new ArrayList<>();
        final List<Integer> counters = new ArrayList<>();
        final List<Pending> pendings = new ArrayList<>();
        final List<Loop> loops = new ArrayList<>();
        final List<int[]> handlers = new ArrayList<>();

        Body(Shape shape) {
            this.shape = shape;
        }

        void emit(int... bytes) {
            for (int b : bytes) {
                code.add(b & 255);
            }
        }

        int top(int depth) {
            return depth < pile.size() ? pile.get(pile.size() - 1 - depth) : -9;
        }

        void drop(int n) {
            for (int i = 0; i < n; i++) {
                pile.remove(pile.size() - 1);
            }
        }

        void pushDefault(int type) {
            if (type == INT) {
                if (chance.nextInt(4) == 0) {
                    emit(1, chance.nextInt(256), chance.nextInt(256));
                } else {
                    emit(0, chance.nextInt(6) == 0 ? chance.nextInt(256) : chance.nextInt(5));
                }
            } else if (type == ROW && chance.nextInt(4) != 0) {
                emit(0, chance.nextInt(5), 43);
            } else if (type >= 2 && chance.nextInt(5) != 0) {
                emit(42, below(type - 2));
            } else {
                emit(2);
            }
            pile.add(type);
        }

        int below(int c) {
            List<Integer> list = new ArrayList<>();
            for (int i = 0; i < supers.length; i++) {
                if (isBelow(i, c)) {
                    list.add(i);
                }
            }
            return list.get(chance.nextInt(list.size()));
        }

        /** Pushes something of a type, from a local if one has it. */
        void pushOf(int type) {
            List<Integer> fit = new ArrayList<>();
            for (int i = 0; i < types.size(); i++) {
                if (fits(types.get(i), type)) {
                    fit.add(i);
                }
            }
            if (!fit.isEmpty() && chance.nextInt(4) != 0) {
                emit(3, fit.get(chance.nextInt(fit.size())));
                pile.add(type);
            } else {
                pushDefault(type);
            }
        }

        void write() {
            int given = shape.params.size() + (shape.isStatic ? 0 : 1);
            if (!shape.isStatic) {
                types.add(2 + shape.klass);
            }
            types.addAll(shape.params);
            while (types.size() < shape.locals) {
                types.add(chance.nextInt(3) == 0 ? INT : anyType());
            }
            for (int i = given; i < shape.locals; i++) {
                pushDefault(types.get(i));
                emit(4, i);
                drop(1);
                if (types.get(i) == INT && chance.nextBoolean()) {
                    counters.add(i);
                }
            }
            int start = code.size();
            int amount = 5 + chance.nextInt(60);
            for (int i = 0; i < amount && code.size() < 170; i++) {
                statement();
            }
            closeAll();
            giveBack();
            writeHandlers(start);
        }

        void closeAll() {
            for (Pending p : pendings) {
                matchPile(p.pile);
                code.set(p.operandAt, code.size());
            }
            pendings.clear();
        }

        /** Brings the pile to that of a jump that comes to here. */
        void matchPile(List<Integer> want) {
            int same = 0;
            while (same < Math.min(want.size(), pile.size()) && want.get(same).equals(pile.get(same))) {
                same++;
            }
            while (pile.size() > same) {
                emit(5);
                drop(1);
            }
            while (pile.size() < want.size()) {
                pushDefault(want.get(pile.size()));
            }
        }

        void giveBack() {
            if (shape.result == 255) {
                emit(52);
            } else {
                pushOf(shape.result);
                emit(53);
            }
            pile.clear();
        }

        void writeHandlers(int start) {
            int bodyEnd = code.size();
            int amount = chance.nextInt(4);
            for (int i = 0; i < amount && code.size() < 225; i++) {
                int from = start + chance.nextInt(Math.max(1, bodyEnd - start));
                int to = from + 1 + chance.nextInt(bodyEnd - from);
                int caught = chance.nextInt(3) == 0 ? 0 : chance.nextInt(3) == 0 ? chance.nextInt(supers.length) : 1;
                handlers.add(new int[] {from, to, code.size(), caught});
                pile.clear();
                pile.add(2 + caught);
                if (caught == 1 && chance.nextBoolean()) {
                    emit(47, 1, 0, 58);
                    drop(1);
                }
                giveBack();
            }
        }

        void statement() {
            if (pile.size() > 12) {
                emit(5);
                drop(1);
                return;
            }
            switch (chance.nextInt(16)) {
                case 0: case 1: pushOf(anyType()); break;
                case 2: storeSomething(); break;
                case 3: shuffle(); break;
                case 4: case 5: reckon(); break;
                case 6: branch(); break;
                case 7: join(); break;
                case 8: loop(); break;
                case 9: rows(); break;
                case 10: case 11: fields(); break;
                case 12: case 13: call(); break;
                case 14: objects(); break;
                default: ports(); break;
            }
        }

        void storeSomething() {
            int i = types.isEmpty() ? -1 : chance.nextInt(types.size());
            if (i < 0 || counters.contains(i)) {
                return;
            }
            if (pile.isEmpty() || !fits(top(0), types.get(i)) || chance.nextBoolean()) {
                pushOf(types.get(i));
            }
            emit(4, i);
            drop(1);
        }

        void shuffle() {
            int which = chance.nextInt(3);
            if (pile.size() < 2) {
                return;
            }
            if (which == 0) {
                emit(5);
                drop(1);
            } else if (which == 1) {
                emit(6);
                pile.add(top(0));
            } else {
                int a = top(1);
                int b = top(0);
                emit(7);
                drop(2);
                pile.add(b);
                pile.add(a);
            }
        }

        void reckon() {
            while (top(0) != INT || top(1) != INT) {
                pushOf(INT);
            }
            if (chance.nextInt(4) == 0) {
                emit(19 + chance.nextInt(4));
            } else {
                emit(8 + chance.nextInt(11));
                drop(1);
            }
            int i = types.isEmpty() ? 0 : chance.nextInt(types.size());
            if (i < types.size() && types.get(i) == INT && chance.nextInt(3) == 0 && !counters.contains(i)) {
                emit(23, i, chance.nextInt(256));
            }
        }

        void branch() {
            int op = 25 + chance.nextInt(16);
            int need = op >= 31 && op <= 36 || op >= 39 ? 2 : 1;
            if (op == 40 && chance.nextBoolean() || pendings.size() > 6) {
                return;
            }
            for (int i = 0; i < need; i++) {
                pushOf(op >= 37 ? 1 + chance.nextInt(1 + supers.length) : INT);
            }
            emit(op, 0);
            drop(need);
            addPending(code.size() - 1);
            if (chance.nextInt(5) == 0) {
                pushOf(INT);
                int k = 1 + chance.nextInt(3);
                emit(41, chance.nextInt(4) - 1, k);
                drop(1);
                for (int i = 0; i <= k; i++) {
                    emit(0);
                    addPending(code.size() - 1);
                }
                join();
            }
        }

        void addPending(int at) {
            Pending p = new Pending();
            p.operandAt = at;
            p.pile = new ArrayList<>(pile);
            pendings.add(p);
        }

        void join() {
            if (pendings.isEmpty()) {
                return;
            }
            Pending p = pendings.remove(chance.nextInt(pendings.size()));
            matchPile(p.pile);
            code.set(p.operandAt, code.size());
        }

        void loop() {
            if (loops.isEmpty() || chance.nextInt(3) == 0) {
                if (counters.isEmpty()) {
                    return;
                }
                Loop l = new Loop();
                l.counter = counters.remove(counters.size() - 1);
                emit(0, 1 + chance.nextInt(12), 4, l.counter);
                types.set(l.counter, -7);
                l.place = code.size();
                l.pile = new ArrayList<>(pile);
                loops.add(l);
                return;
            }
            Loop l = loops.remove(loops.size() - 1);
            matchPile(l.pile);
            emit(23, l.counter, 255, 3, l.counter, 29, l.place);
        }

        void rows() {
            int which = chance.nextInt(3);
            pushOf(ROW);
            if (which == 0) {
                emit(44);
                drop(1);
                pile.add(INT);
                return;
            }
            if (chance.nextInt(4) != 0) {
                emit(0, chance.nextInt(3));
                pile.add(INT);
            } else {
                pushOf(INT);
            }
            if (which == 1) {
                emit(45);
                drop(2);
                pile.add(INT);
            } else {
                pushOf(INT);
                emit(46);
                drop(3);
            }
        }

        void fields() {
            int c = chance.nextInt(supers.length);
            if (all.get(c).isEmpty()) {
                return;
            }
            int f = chance.nextInt(all.get(c).size());
            int type = all.get(c).get(f);
            pushOf(2 + c);
            if (chance.nextBoolean()) {
                emit(47, c, f);
                drop(1);
                pile.add(type);
            } else {
                pushOf(type);
                emit(48, c, f);
                drop(2);
            }
        }

        void call() {
            int m = chance.nextInt(shapes.size());
            Shape s = shapes.get(m);
            if (pile.size() > 8 || chance.nextInt(4) == 0) {
                return;
            }
            int before = pile.size();
            if (!s.isStatic) {
                pushOf(2 + s.klass);
            }
            for (int p : s.params) {
                pushOf(p);
            }
            emit(s.isStatic ? 49 : chance.nextInt(3) == 0 ? 51 : 50, m);
            drop(pile.size() - before);
            if (s.result != 255) {
                pile.add(s.result);
            }
        }

        void objects() {
            int c = chance.nextInt(supers.length);
            int d = chance.nextInt(supers.length);
            pushOf(2 + c);
            drop(1);
            int which = chance.nextInt(8);
            if (which < 3) {
                emit(55, isBelow(d, c) || chance.nextInt(5) == 0 ? d : c);
                pile.add(2 + code.get(code.size() - 1));
            } else if (which < 7) {
                emit(56, d);
                pile.add(INT);
            } else {
                pushOf(INT);
                emit(26, code.size() + 3, 54);
                pile.remove(pile.size() - 1);
                emit(5);
            }
        }

        void ports() {
            if (chance.nextInt(3) == 0) {
                emit(57);
                pile.add(INT);
            } else {
                pushOf(INT);
                emit(58);
                drop(1);
            }
        }
    }

    ProgramMaker(long seed) {
        chance = new Random(seed);
    }

    private int anyType() {
        return chance.nextInt(2 + supers.length);
    }

    private boolean isBelow(int c, int above) {
        int x = c;
        while (x > above) {
            x = supers[x];
        }
        return x == above;
    }

    private boolean fits(int type, int want) {
        return type == want || type >= 2 && want >= 2 && isBelow(type - 2, want - 2);
    }

    int[] make() {
        makeClasses();
        makeShapes();
        List<Integer> tape = new ArrayList<>(List.of(202, 254, supers.length));
        for (int c = 0; c < supers.length; c++) {
            tape.add(c == 0 ? 255 : supers[c]);
            tape.add(own.get(c).size());
            tape.addAll(own.get(c));
        }
        tape.add(shapes.size());
        for (Shape s : shapes) {
            Body b = new Body(s);
            b.write();
            tape.addAll(List.of(s.klass, s.name, s.isStatic ? 1 : 0, s.params.size()));
            tape.addAll(s.params);
            tape.addAll(List.of(s.result, s.locals, Math.min(250, b.code.size()), b.handlers.size()));
            for (int[] h : b.handlers) {
                for (int v : h) {
                    tape.add(v);
                }
            }
            tape.addAll(b.code.subList(0, Math.min(250, b.code.size())));
        }
        return tape.stream().mapToInt(x -> x).toArray();
    }

    private void makeClasses() {
        int n = 2 + chance.nextInt(chance.nextInt(5) == 0 ? 15 : 5);
        supers = new int[n];
        own = new ArrayList<>();
        all = new ArrayList<>();
        for (int c = 0; c < n; c++) {
            supers[c] = c < 2 ? c - 1 : chance.nextInt(c);
            List<Integer> mine = new ArrayList<>();
            int fields = c == 0 ? 0 : c == 1 ? 1 + chance.nextInt(2) : chance.nextInt(4);
            for (int f = 0; f < fields; f++) {
                mine.add(c == 1 && f == 0 ? INT : chance.nextInt(3) == 0 ? INT : anyType());
            }
            List<Integer> total = new ArrayList<>(c == 0 ? List.of() : all.get(supers[c]));
            total.addAll(mine);
            own.add(mine);
            all.add(total);
        }
    }

    private void makeShapes() {
        int n = 1 + chance.nextInt(9);
        int klass = 0;
        for (int m = 0; m < n; m++) {
            if (chance.nextInt(3) != 0 && m > 0) {
                klass = Math.min(supers.length - 1, klass + chance.nextInt(3));
            }
            Shape s = new Shape();
            s.klass = klass;
            s.name = freeName(klass);
            s.isStatic = m == 0 || chance.nextInt(3) == 0;
            Shape over = s.isStatic ? null : overridden(s);
            if (over != null) {
                s.params = over.params;
                s.result = over.result;
            } else {
                boolean isMain = s.isStatic && chance.nextInt(3) != 0;
                int p = m == 0 ? chance.nextInt(3) : chance.nextInt(4);
                for (int i = 0; i < p; i++) {
                    s.params.add(m == 0 || isMain ? INT : anyType());
                }
                s.result = chance.nextInt(4) == 0 ? 255 : anyType();
            }
            int least = s.params.size() + (s.isStatic ? 0 : 1);
            s.locals = Math.min(20, least + chance.nextInt(chance.nextInt(6) == 0 ? 14 : 5));
            shapes.add(s);
        }
    }

    private int freeName(int klass) {
        while (true) {
            int name = chance.nextInt(5) == 0 ? chance.nextInt(32) : chance.nextInt(10);
            boolean isFree = true;
            for (Shape s : shapes) {
                isFree &= s.klass != klass || s.name != name;
            }
            if (isFree) {
                return name;
            }
        }
    }

    private Shape overridden(Shape s) {
        for (int c = supers[s.klass]; c >= 0; c = supers[c]) {
            for (Shape o : shapes) {
                if (o.klass == c && o.name == s.name && !o.isStatic) {
                    return o;
                }
            }
        }
        return null;
    }
}
