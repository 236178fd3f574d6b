import java.util.ArrayList;
import java.util.LinkedHashMap;
import java.util.LinkedList;
import java.util.List;
import java.util.Map;
import java.util.NoSuchElementException;
import java.util.TreeMap;
import java.util.TreeSet;

/**
 * The document once more, written for plainness alone and in another way than the program: with lists, maps and
 * exceptions. OracleTest lets both answer the same calls.
 */
final class Oracle {
    static final int NULL = -2;
    static final int NOTHING = -3;

    private static final class Stop extends RuntimeException {
        private static final long serialVersionUID = 1L;
        final int kind;
        final int where;

        Stop(int kind, int where) {
            super(null, null, false, false);
            this.kind = kind;
            this.where = where;
        }
    }

    private static final class Trap extends RuntimeException {
        private static final long serialVersionUID = 1L;
        final int number;

        Trap(int number) {
            super(null, null, false, false);
            this.number = number;
        }
    }

    private static final class Klass {
        int number;
        Klass above;
        List<Integer> own = new ArrayList<>();
        List<Integer> all = new ArrayList<>();
        Map<Integer, Meth> table = new TreeMap<>();
    }

    private static final class Catcher {
        int from;
        int to;
        int target;
        Klass klass;
    }

    private static final class State {
        List<Integer> pile = new ArrayList<>();
        List<Integer> locals = new ArrayList<>();

        State copy() {
            State s = new State();
            s.pile.addAll(pile);
            s.locals.addAll(locals);
            return s;
        }
    }

    private static final class Meth {
        int number;
        Klass klass;
        int name;
        boolean fixed;
        List<Integer> params = new ArrayList<>();
        int result;
        int locals;
        int[] code;
        List<Catcher> catchers = new ArrayList<>();
        Map<Integer, State> states = new TreeMap<>();
        int times;

        List<Integer> wants() {
            List<Integer> w = new ArrayList<>();
            if (!fixed) {
                w.add(2 + klass.number);
            }
            w.addAll(params);
            return w;
        }
    }

    private static final class Word {
        final int value;
        final boolean ref;

        Word(int value, boolean ref) {
            this.value = value;
            this.ref = ref;
        }
    }

    private static final class Thing {
        Klass klass;
        int words;
        int at;
        int space;
        int colour = 2;
    }

    private final int k;
    private final int ram;
    private final int w;
    private final int pace;
    private List<Integer> tape = new ArrayList<>();
    private int answer = -1;
    private int badByte = -1;
    private int badMethod = -1;
    private int why = -1;
    private int where = -1;
    private List<Klass> classes;
    private List<Meth> methods;
    private List<Klass> newClasses;
    private List<Meth> newMethods;

    private final List<Integer> input = new ArrayList<>();
    private final List<Integer> output = new ArrayList<>();
    private int taken;
    private int status;
    private int result;
    private int done;
    private long cycles;
    private Meth current;
    private int place;
    private int base;
    private List<Word> pile = new ArrayList<>();
    private int low;
    private int spills;
    private int fills;
    private int hits;
    private int misses;
    private int next;
    private Integer[] blocks;
    private TreeMap<Integer, Thing> heap = new TreeMap<>();
    private int[][] spaces;
    private int active;
    private int used;
    private boolean collecting;
    private int top;
    private int left;
    private LinkedList<Integer> grey = new LinkedList<>();
    private int copying;
    private int copied;
    private int copyTo;
    private int steps;
    private int collections;
    private boolean made;

    Oracle(int k, int ram, int w, int pace) {
        this.k = k < 2 ? 2 : k > 16 ? 16 : k;
        this.ram = ram < 8 ? 8 : ram > 64 ? 64 : ram;
        this.w = w < 16 ? 16 : w > 256 ? 256 : w;
        this.pace = pace < 0 ? 0 : pace > 8 ? 8 : pace;
        forgetRun();
    }

    private void forgetRun() {
        output.clear();
        taken = 0;
        status = 0;
        result = 0;
        done = 0;
        cycles = 0;
        pile.clear();
        low = spills = fills = hits = misses = next = 0;
        blocks = new Integer[k];
        heap.clear();
        spaces = new int[2][w];
        active = used = top = left = steps = collections = 0;
        collecting = false;
        grey.clear();
        copying = 0;
    }

    int feed(int... ints) {
        if (tape.size() + 20 > 4000) {
            return -1;
        }
        for (int i : ints) {
            tape.add(i >>> 24);
            tape.add(i >>> 16 & 255);
            tape.add(i >>> 8 & 255);
            tape.add(i & 255);
        }
        return tape.size();
    }

    int end(int n) {
        if (n < 0 || n > tape.size()) {
            return -1;
        }
        tape = new ArrayList<>(tape.subList(0, n));
        return n;
    }

    // ---- PART 1

    private int at;

    private int see(int lowest, int highest) {
        if (at >= tape.size() || tape.get(at) < lowest || tape.get(at) > highest) {
            throw new Stop(1, at);
        }
        return tape.get(at++);
    }

    private void readForm() {
        at = 0;
        newClasses = new ArrayList<>();
        newMethods = new ArrayList<>();
        see(202, 202);
        see(254, 254);
        int count = see(2, 16);
        for (int c = 0; c < count; c++) {
            Klass x = new Klass();
            x.number = c;
            if (c == 0) {
                see(255, 255);
                see(0, 0);
            } else {
                x.above = newClasses.get(see(0, c == 1 ? 0 : c - 1));
                x.all.addAll(x.above.all);
                int f = see(c == 1 ? 1 : 0, 6);
                for (int i = 0; i < f; i++) {
                    x.own.add(see(0, c == 1 && i == 0 ? 0 : count + 1));
                }
                x.all.addAll(x.own);
            }
            newClasses.add(x);
        }
        int number = see(1, 48);
        for (int m = 0; m < number; m++) {
            readMethod(m, count);
        }
        if (at != tape.size()) {
            throw new Stop(1, at);
        }
        for (Klass x : newClasses) {
            if (x.above != null) {
                x.table.putAll(x.above.table);
            }
            for (Meth m : newMethods) {
                if (m.klass == x && !m.fixed) {
                    x.table.put(m.name, m);
                }
            }
        }
    }

    private Meth inherited(Klass klass, int name) {
        for (Klass x = klass.above; x != null; x = x.above) {
            for (Meth m : newMethods) {
                if (m.klass == x && m.name == name && !m.fixed) {
                    return m;
                }
            }
        }
        return null;
    }

    private void readMethod(int number, int count) {
        Meth m = new Meth();
        m.number = number;
        m.klass = newClasses.get(see(number == 0 ? 0 : newMethods.get(number - 1).klass.number, count - 1));
        m.name = see(0, 31);
        for (Meth o : newMethods) {
            if (o.klass == m.klass && o.name == m.name) {
                throw new Stop(1, at - 1);
            }
        }
        m.fixed = see(0, 1) == 1;
        Meth o = m.fixed ? null : inherited(m.klass, m.name);
        int p = see(0, 5);
        if (o != null && p != o.params.size()) {
            throw new Stop(1, at - 1);
        }
        for (int i = 0; i < p; i++) {
            m.params.add(see(0, count + 1));
            if (o != null && !o.params.get(i).equals(m.params.get(i))) {
                throw new Stop(1, at - 1);
            }
        }
        m.result = see(0, 255);
        if (m.result == 255) {
            m.result = -1;
        } else if (m.result > count + 1) {
            throw new Stop(1, at - 1);
        }
        if (o != null && o.result != m.result) {
            throw new Stop(1, at - 1);
        }
        m.locals = see(p + (m.fixed ? 0 : 1), 20);
        int length = see(1, 250);
        int h = see(0, 4);
        for (int i = 0; i < h; i++) {
            Catcher c = new Catcher();
            c.from = see(0, length - 1);
            c.to = see(c.from + 1, length);
            c.target = see(0, length - 1);
            c.klass = newClasses.get(see(0, count - 1));
            m.catchers.add(c);
        }
        m.code = new int[length];
        for (int i = 0; i < length; i++) {
            m.code[i] = see(0, 255);
        }
        newMethods.add(m);
    }

    // ---- PART 2 and 3

    /** Operands of each: b, w, n, t, c, m as the document calls them, f a field, s those of SWITCH. */
    private static final String[] OPERANDS = {
        "b", "w", "", "n", "n", "", "", "", "", "", "", "", "", "", "", "", "", "", "", "", "", "", "", "nb",
        "t", "t", "t", "t", "t", "t", "t", "t", "t", "t", "t", "t", "t", "t", "t", "t", "t", "s",
        "c", "", "", "", "", "cf", "cf", "m", "m", "m", "", "", "", "c", "c", "", ""};

    /** What each takes: I int, R row, A anything, P any reference, O object; C, F, M, X told by the operands. */
    private static final String[] TAKES = {
        "", "", "", "", "A", "A", "A", "AA", "II", "II", "II", "II", "II", "II", "II", "II", "II", "II", "II",
        "I", "I", "I", "I", "", "", "I", "I", "I", "I", "I", "I", "II", "II", "II", "II", "II", "II",
        "P", "P", "PP", "PP", "I", "", "I", "R", "RI", "RII", "C", "CF", "M", "M", "M", "", "X", "O", "O", "O",
        "", "I"};

    private static int size(int[] code, int p) {
        int n = 1;
        for (char c : OPERANDS[code[p]].toCharArray()) {
            n += c == 'w' ? 2 : c == 's' ? 3 + (p + 2 < code.length ? code[p + 2] : 0) : 1;
        }
        return n;
    }

    private static List<Integer> targets(int[] code, int p) {
        List<Integer> list = new ArrayList<>();
        if (OPERANDS[code[p]].equals("t")) {
            list.add(code[p + 1]);
        } else if (code[p] == 41) {
            for (int i = 0; i <= code[p + 2]; i++) {
                list.add(code[p + 3 + i]);
            }
        }
        return list;
    }

    private boolean operandsRight(Meth m, int p) {
        int op = m.code[p];
        int q = p + 1;
        for (char c : OPERANDS[op].toCharArray()) {
            if (q >= m.code.length) {
                return false;
            }
            int v = m.code[q];
            if (c == 'n' && v >= m.locals || c == 'c' && v >= newClasses.size()) {
                return false;
            }
            if (c == 'f' && v >= newClasses.get(m.code[q - 1]).all.size()) {
                return false;
            }
            if (c == 'm' && (v >= newMethods.size() || newMethods.get(v).fixed != (op == 49))) {
                return false;
            }
            if (c == 's' && (q + 1 >= m.code.length || m.code[q + 1] < 1 || m.code[q + 1] > 8)) {
                return false;
            }
            q++;
        }
        return p + size(m.code, p) <= m.code.length;
    }

    private void verify(Meth m) {
        TreeSet<Integer> places = new TreeSet<>();
        for (int p = 0; p < m.code.length; p += size(m.code, p)) {
            if (m.code[p] > 58) {
                throw new Stop(1, p);
            }
            if (!operandsRight(m, p)) {
                throw new Stop(2, p);
            }
            places.add(p);
        }
        for (int p : places) {
            for (int t : targets(m.code, p)) {
                if (!places.contains(t)) {
                    throw new Stop(3, p);
                }
            }
        }
        for (Catcher c : m.catchers) {
            if (!places.contains(c.target)) {
                throw new Stop(3, c.target);
            }
        }
        State s = new State();
        s.locals.addAll(m.wants());
        while (s.locals.size() < m.locals) {
            s.locals.add(NOTHING);
        }
        m.states.put(0, s);
        TreeSet<Integer> todo = new TreeSet<>();
        todo.add(0);
        while (!todo.isEmpty()) {
            int p = todo.pollFirst();
            m.times++;
            flow(m, p, todo);
        }
    }

    private boolean above(int c, int a) {
        for (Klass x = newClasses.get(c); x != null; x = x.above) {
            if (x.number == a) {
                return true;
            }
        }
        return false;
    }

    private boolean fit(int type, int want) {
        return type == want || type == NULL && want >= 1 || type >= 2 && want >= 2 && above(type - 2, want - 2);
    }

    private void flow(Meth m, int p, TreeSet<Integer> todo) {
        State before = m.states.get(p);
        State s = before.copy();
        int op = m.code[p];
        int x = p + 1 < m.code.length ? m.code[p + 1] : -1;
        Meth called = op >= 49 && op <= 51 ? newMethods.get(x) : null;
        String takes = TAKES[op];
        int n = called != null ? called.wants().size() : takes.length();
        if (s.pile.size() < n) {
            throw new Stop(4, p);
        }
        List<Integer> got = new ArrayList<>(s.pile.subList(s.pile.size() - n, s.pile.size()));
        s.pile.subList(s.pile.size() - n, s.pile.size()).clear();
        for (int i = 0; i < n; i++) {
            int t = got.get(i);
            boolean right;
            switch (called != null ? 'M' : takes.charAt(i)) {
                case 'I': right = t == 0; break;
                case 'R': right = fit(t, 1); break;
                case 'A': right = true; break;
                case 'P': right = t != 0; break;
                case 'O': right = t == NULL || t >= 2; break;
                case 'C': right = fit(t, 2 + x); break;
                case 'F': right = fit(t, newClasses.get(x).all.get(m.code[p + 2])); break;
                case 'M': right = fit(t, called.wants().get(i)); break;
                default: right = m.result != -1 && fit(t, m.result); break;
            }
            if (!right) {
                throw new Stop(5, p);
            }
        }
        if (op == 3 && s.locals.get(x) == NOTHING || op == 23 && s.locals.get(x) != 0 || op == 52 && m.result != -1) {
            throw new Stop(5, p);
        }
        switch (op) {
            case 2: s.pile.add(NULL); break;
            case 3: s.pile.add(s.locals.get(x)); break;
            case 4: s.locals.set(x, got.get(0)); break;
            case 6: s.pile.add(got.get(0)); s.pile.add(got.get(0)); break;
            case 7: s.pile.add(got.get(1)); s.pile.add(got.get(0)); break;
            case 42: case 55: s.pile.add(2 + x); break;
            case 43: s.pile.add(1); break;
            case 47: s.pile.add(newClasses.get(x).all.get(m.code[p + 2])); break;
            case 49: case 50: case 51:
                if (called.result != -1) {
                    s.pile.add(called.result);
                }
                break;
            case 0: case 1: case 44: case 45: case 56: case 57: s.pile.add(0); break;
            default:
                if (op >= 8 && op <= 22) {
                    s.pile.add(0);
                }
        }
        if (s.pile.size() > 16) {
            throw new Stop(6, p);
        }
        if (List.of(11, 12, 43, 44, 45, 46, 47, 48, 49, 50, 51, 54, 55, 57).contains(op)) {
            for (Catcher c : m.catchers) {
                if (c.from <= p && p < c.to) {
                    State h = before.copy();
                    h.pile.clear();
                    h.pile.add(2 + c.klass.number);
                    arrive(m, p, c.target, h, todo);
                }
            }
        }
        if (!List.of(24, 41, 52, 53, 54).contains(op)) {
            int behind = p + size(m.code, p);
            if (behind == m.code.length) {
                throw new Stop(7, p);
            }
            arrive(m, p, behind, s, todo);
        }
        for (int t : targets(m.code, p)) {
            arrive(m, p, t, s, todo);
        }
    }

    /** Null if the two have no type in common. */
    private Integer join(int a, int b) {
        if (a == b) {
            return a;
        }
        if (a == NULL && b > 0) {
            return b;
        }
        if (b == NULL && a > 0) {
            return a;
        }
        if (a >= 2 && b >= 2) {
            Klass c = newClasses.get(a - 2);
            while (!above(b - 2, c.number)) {
                c = c.above;
            }
            return 2 + c.number;
        }
        return null;
    }

    private void arrive(Meth m, int from, int to, State s, TreeSet<Integer> todo) {
        State old = m.states.get(to);
        if (old == null) {
            m.states.put(to, s.copy());
            todo.add(to);
            return;
        }
        if (old.pile.size() != s.pile.size()) {
            throw new Stop(8, from);
        }
        State merged = new State();
        for (int i = 0; i < old.locals.size(); i++) {
            Integer t = join(old.locals.get(i), s.locals.get(i));
            merged.locals.add(t == null ? NOTHING : t);
        }
        for (int i = 0; i < old.pile.size(); i++) {
            Integer t = join(old.pile.get(i), s.pile.get(i));
            if (t == null) {
                throw new Stop(8, from);
            }
            merged.pile.add(t);
        }
        if (!merged.locals.equals(old.locals) || !merged.pile.equals(old.pile)) {
            m.states.put(to, merged);
            todo.add(to);
        }
    }

    int load() {
        badByte = badMethod = why = where = -1;
        try {
            readForm();
        } catch (Stop e) {
            badByte = e.where;
            answer = 1;
            return 1;
        }
        for (Meth m : newMethods) {
            try {
                verify(m);
            } catch (Stop e) {
                badMethod = m.number;
                why = e.kind;
                where = e.where;
                answer = 2;
                return 2;
            }
        }
        classes = newClasses;
        methods = newMethods;
        tape.clear();
        forgetRun();
        input.clear();
        answer = 0;
        return 0;
    }

    int fault(int what) {
        return what == 0 ? answer : what == 1 ? badByte : what == 2 ? badMethod : what == 3 ? why : what == 4 ? where : -1;
    }

    int klass(int c, int what) {
        if (classes == null || c < 0 || c >= classes.size() || what < 0) {
            return -1;
        }
        Klass x = classes.get(c);
        if (what == 0) {
            return x.above == null ? -1 : x.above.number;
        }
        if (what < 3) {
            return what == 1 ? x.own.size() : x.all.size();
        }
        return what - 3 < x.all.size() ? x.all.get(what - 3) : -1;
    }

    int method(int m, int what) {
        if (methods == null || m < 0 || m >= methods.size() || what < 0 || what > 9) {
            return -1;
        }
        Meth x = methods.get(m);
        int[] all = {x.klass.number, x.name, x.fixed ? 1 : 0, x.params.size(), x.result, x.locals, x.code.length,
            x.catchers.size(), x.states.size(), x.times};
        return all[what];
    }

    int table(int c, int name) {
        if (classes == null || c < 0 || c >= classes.size() || !classes.get(c).table.containsKey(name)) {
            return -1;
        }
        return classes.get(c).table.get(name).number;
    }

    int type(int m, int p, int i) {
        if (methods == null || m < 0 || m >= methods.size() || !methods.get(m).states.containsKey(p)) {
            return -1;
        }
        State s = methods.get(m).states.get(p);
        if (i == -1) {
            return s.pile.size();
        }
        if (i >= 0 && i < s.locals.size()) {
            return s.locals.get(i);
        }
        return i >= 100 && i - 100 < s.pile.size() ? s.pile.get(i - 100) : -1;
    }

    // ---- PART 4 and 5

    boolean input(int v) {
        if (methods == null || input.size() == 64) {
            return false;
        }
        return input.add(v);
    }

    boolean begin(int m, int a, int b) {
        if (methods == null || m < 0 || m >= methods.size()) {
            return false;
        }
        Meth x = methods.get(m);
        if (!x.fixed || x.params.size() > 2 || x.params.stream().anyMatch(t -> t != 0)) {
            return false;
        }
        forgetRun();
        status = 1;
        int[] values = {a, b};
        for (int i = 0; i < x.locals; i++) {
            push(i < x.params.size() ? values[i] : 0, false);
        }
        push(-1, false);
        push(0, false);
        push(0, false);
        current = x;
        base = 0;
        place = 0;
        seek();
        return true;
    }

    private void push(int v, boolean ref) {
        pile.add(new Word(v, ref));
        if (pile.size() - low > ram) {
            low++;
            spills++;
            cycles++;
        }
    }

    private Word take() {
        Word x = pile.get(pile.size() - 1);
        cut(pile.size() - 1);
        return x;
    }

    private void cut(int size) {
        while (pile.size() > size) {
            pile.remove(pile.size() - 1);
        }
        if (size < low) {
            low = size;
            fills++;
            cycles++;
        }
    }

    private int peek(int depth) {
        return pile.get(pile.size() - 1 - depth).value;
    }

    private void seek() {
        for (Integer b : blocks) {
            if (b != null && b == current.number) {
                hits++;
                cycles++;
                return;
            }
        }
        misses++;
        int n = (current.code.length + 15) / 16;
        cycles += 3 + 4 * n;
        if (n > k) {
            blocks = new Integer[k];
            next = 0;
            return;
        }
        TreeSet<Integer> out = new TreeSet<>();
        for (int i = 0; i < n; i++) {
            Integer b = blocks[(next + i) % k];
            if (b != null) {
                out.add(b);
            }
        }
        for (int i = 0; i < k; i++) {
            if (blocks[i] != null && out.contains(blocks[i])) {
                blocks[i] = null;
            }
        }
        for (int i = 0; i < n; i++) {
            blocks[(next + i) % k] = current.number;
        }
        next = (next + n) % k;
    }

    private boolean isThere(long words) {
        return heap.size() < 60 && (collecting ? top + left + words : used + words) <= w;
    }

    private int allocate(Klass klass, int words) {
        if (!isThere(words)) {
            if (collecting) {
                while (collecting) {
                    step();
                }
            }
            if (!isThere(words)) {
                beginCollection();
                while (collecting) {
                    step();
                }
            }
            if (!isThere(words)) {
                throw new Stop(4, 0);
            }
        }
        int h = 1;
        while (heap.containsKey(h)) {
            h++;
        }
        Thing t = new Thing();
        t.klass = klass;
        t.words = words;
        t.space = collecting ? 1 - active : active;
        t.at = collecting ? top : used;
        for (int i = 0; i < words; i++) {
            spaces[t.space][t.at + i] = 0;
        }
        if (collecting) {
            top += words;
        } else {
            used += words;
        }
        heap.put(h, t);
        made = true;
        return h;
    }

    private void beginCollection() {
        collections++;
        collecting = true;
        top = 0;
        left = 0;
        grey.clear();
        copying = 0;
        for (Thing t : heap.values()) {
            left += t.words;
            t.colour = 0;
        }
        for (Word x : pile) {
            if (x.ref) {
                shade(x.value);
            }
        }
    }

    private void shade(int h) {
        if (h != 0 && heap.get(h).colour == 0) {
            heap.get(h).colour = 1;
            grey.add(h);
        }
    }

    private void step() {
        steps++;
        cycles++;
        if (copying != 0) {
            Thing t = heap.get(copying);
            int v = spaces[t.space][t.at + copied];
            spaces[1 - t.space][copyTo + copied] = v;
            left--;
            if (t.klass != null && t.klass.all.get(copied) != 0) {
                shade(v);
            }
            copied++;
            if (copied == t.words) {
                t.at = copyTo;
                t.space = 1 - t.space;
                t.colour = 2;
                copying = 0;
            }
        } else if (!grey.isEmpty()) {
            int h = grey.removeFirst();
            Thing t = heap.get(h);
            copyTo = top;
            top += t.words;
            if (t.words == 0) {
                t.at = copyTo;
                t.space = 1 - active;
                t.colour = 2;
            } else {
                copying = h;
                copied = 0;
            }
        } else {
            heap.values().removeIf(t -> t.colour == 0);
            active = 1 - active;
            used = top;
            collecting = false;
        }
    }

    private void store(int h, int i, int v, boolean ref) {
        Thing t = heap.get(h);
        if (collecting && ref) {
            shade(spaces[t.space][t.at + i]);
        }
        spaces[t.space][t.at + i] = v;
        if (collecting && copying == h && i < copied) {
            spaces[1 - t.space][copyTo + i] = v;
        }
    }

    private void needObject(int h) {
        if (h == 0) {
            throw new Trap(1);
        }
    }

    int go(int n) {
        if (n < 1 || n > 100000) {
            throw new IllegalArgumentException();
        }
        if (status == 0) {
            throw new IllegalStateException();
        }
        int count = 0;
        while (count < n && status == 1) {
            instruction();
            count++;
        }
        return count;
    }

    private void instruction() {
        done++;
        made = false;
        int was = place;
        try {
            try {
                place = execute(current.code[was]);
            } catch (Trap t) {
                cycles += 5 + 2 + classes.get(1).all.size();
                int h = allocate(classes.get(1), classes.get(1).all.size());
                Thing x = heap.get(h);
                spaces[x.space][x.at] = t.number;
                fly(h, was);
            }
        } catch (Stop e) {
            status = e.kind;
        }
        if (status == 1) {
            if (made && !collecting && used > w / 2) {
                beginCollection();
            }
            for (int i = 0; i < pace && collecting; i++) {
                step();
            }
        }
    }

    private void fly(int h, int from) {
        int p = from;
        while (true) {
            for (Catcher c : current.catchers) {
                if (p >= c.from && p < c.to && isA(heap.get(h).klass, c.klass)) {
                    cut(base + current.locals + 3);
                    push(h, true);
                    cycles += 2;
                    seek();
                    place = c.target;
                    return;
                }
            }
            cycles += 3;
            int link = base + current.locals;
            int caller = pile.get(link).value;
            p = pile.get(link + 1).value - 2;
            int callerBase = pile.get(link + 2).value;
            cut(base);
            if (caller == -1) {
                result = h;
                status = 3;
                return;
            }
            base = callerBase;
            current = methods.get(caller);
        }
    }

    private static boolean isA(Klass x, Klass c) {
        return x != null && (x == c || isA(x.above, c));
    }

    private int climb(int h, Klass c) {
        int n = 0;
        for (Klass x = heap.get(h).klass; x != c && x.above != null; x = x.above) {
            n++;
        }
        return n;
    }

    private void reach(int i) {
        cycles += i < low ? 2 : 0;
    }

    private void pushInt(int v) {
        push(v, false);
    }

    /** Where it goes on. */
    private int execute(int op) {
        int[] code = current.code;
        int p = place;
        int on = p + size(code, p);
        int x = p + 1 < code.length ? code[p + 1] : 0;
        int y = p + 2 < code.length ? code[p + 2] : 0;
        cycles++;
        if (op == 0) {
            pushInt((byte) x);
        } else if (op == 1) {
            pushInt((short) (x << 8 | y));
        } else if (op == 2) {
            push(0, true);
        } else if (op == 3) {
            reach(base + x);
            Word v = pile.get(base + x);
            push(v.value, v.ref);
        } else if (op == 4) {
            Word v = take();
            reach(base + x);
            pile.set(base + x, v);
        } else if (op == 5) {
            take();
        } else if (op == 6) {
            Word v = take();
            push(v.value, v.ref);
            push(v.value, v.ref);
        } else if (op == 7) {
            Word b = take();
            Word a = take();
            push(b.value, b.ref);
            push(a.value, a.ref);
        } else if (op < 19) {
            arithmetic(op);
        } else if (op < 23) {
            int v = take().value;
            pushInt(op == 19 ? 0 - v : op == 20 ? v << 24 >> 24 : op == 21 ? v << 16 >>> 16 : v << 16 >> 16);
        } else if (op == 23) {
            reach(base + x);
            pile.set(base + x, new Word(pile.get(base + x).value + (byte) y, false));
        } else if (op < 41) {
            if (decide(op)) {
                cycles += 2;
                on = x;
            }
        } else if (op == 41) {
            cycles += 4;
            long i = (long) take().value - (byte) x;
            on = i >= 0 && i < y ? code[p + 4 + (int) i] : code[p + 3];
        } else if (op < 49) {
            things(op, x, y);
        } else if (op < 52) {
            on = call(op, methods.get(x), on);
        } else if (op < 54) {
            on = back(op);
        } else {
            return others(op, x, on);
        }
        return on;
    }

    private void arithmetic(int op) {
        cycles += op == 10 ? 3 : op == 11 || op == 12 ? 7 : 0;
        if ((op == 11 || op == 12) && peek(0) == 0) {
            throw new Trap(3);
        }
        long b = take().value;
        long a = take().value;
        int s = (int) (b & 31);
        long v;
        switch (op) {
            case 8: v = a + b; break;
            case 9: v = a - b; break;
            case 10: v = a * b; break;
            case 11: v = a / b; break;
            case 12: v = a % b; break;
            case 13: v = a & b; break;
            case 14: v = a | b; break;
            case 15: v = a ^ b; break;
            case 16: v = a << s; break;
            case 17: v = a >> s; break;
            default: v = (a & 0xFFFFFFFFL) >> s; break;
        }
        pushInt((int) v);
    }

    private boolean decide(int op) {
        if (op == 24) {
            return true;
        }
        int b = op >= 31 && op <= 36 || op >= 39 ? take().value : 0;
        int a = take().value;
        switch (op) {
            case 25: case 31: case 37: case 39: return a == b;
            case 26: case 32: case 38: case 40: return a != b;
            case 27: case 33: return a < b;
            case 28: case 34: return a >= b;
            case 29: case 35: return a > b;
            default: return a <= b;
        }
    }

    private void things(int op, int x, int y) {
        switch (op) {
            case 42: {
                Klass c = classes.get(x);
                cycles += 2 + c.all.size();
                push(allocate(c, c.all.size()), true);
                break;
            }
            case 43: {
                cycles += 2;
                if (peek(0) < 0) {
                    throw new Trap(5);
                }
                int n = take().value;
                cycles += n;
                push(allocate(null, n), true);
                break;
            }
            case 44:
                cycles += 2;
                needObject(peek(0));
                pushInt(heap.get(take().value).words);
                break;
            case 45: {
                cycles += 3;
                needPlace(peek(1), peek(0));
                int i = take().value;
                Thing t = heap.get(take().value);
                pushInt(spaces[t.space][t.at + i]);
                break;
            }
            case 46: {
                cycles += 3;
                needPlace(peek(2), peek(1));
                int v = take().value;
                int i = take().value;
                store(take().value, i, v, false);
                break;
            }
            case 47: {
                cycles += 2;
                needObject(peek(0));
                Thing t = heap.get(take().value);
                push(spaces[t.space][t.at + y], classes.get(x).all.get(y) != 0);
                break;
            }
            default: {
                cycles += 2;
                needObject(peek(1));
                int v = take().value;
                store(take().value, y, v, classes.get(x).all.get(y) != 0);
            }
        }
    }

    private void needPlace(int h, int i) {
        needObject(h);
        if (i < 0 || i >= heap.get(h).words) {
            throw new Trap(2);
        }
    }

    private int call(int op, Meth told, int on) {
        cycles += 4;
        int n = told.wants().size();
        Meth m = told;
        if (op != 49) {
            int h = peek(n - 1);
            needObject(h);
            if (op == 50) {
                m = heap.get(h).klass.table.get(told.name);
            }
        }
        int start = pile.size() - n;
        if (start + m.locals + 3 + 16 > 400) {
            throw new Stop(5, 0);
        }
        while (pile.size() < start + m.locals) {
            pushInt(0);
        }
        pushInt(current.number);
        pushInt(on);
        pushInt(base);
        base = start;
        current = m;
        seek();
        return 0;
    }

    private int back(int op) {
        cycles += 3;
        Word v = op == 53 ? take() : null;
        int link = base + current.locals;
        if (base == 0) {
            result = v == null ? 0 : v.value;
            status = 2;
            return 0;
        }
        int[] three = new int[3];
        for (int i = 0; i < 3; i++) {
            reach(link + i);
            three[i] = pile.get(link + i).value;
        }
        cut(base);
        if (v != null) {
            push(v.value, v.ref);
        }
        current = methods.get(three[0]);
        base = three[2];
        seek();
        return three[1];
    }

    private int others(int op, int x, int on) {
        switch (op) {
            case 54:
                needObject(peek(0));
                fly(take().value, place);
                return place;
            case 55: {
                int h = peek(0);
                if (h != 0) {
                    cycles += climb(h, classes.get(x));
                    if (!isA(heap.get(h).klass, classes.get(x))) {
                        throw new Trap(4);
                    }
                }
                push(take().value, true);
                return on;
            }
            case 56: {
                int h = take().value;
                if (h != 0) {
                    cycles += climb(h, classes.get(x));
                }
                pushInt(h != 0 && isA(heap.get(h).klass, classes.get(x)) ? 1 : 0);
                return on;
            }
            case 57:
                if (taken == input.size()) {
                    throw new Trap(6);
                }
                pushInt(input.get(taken++));
                return on;
            default: {
                int v = take().value;
                if (output.size() < 200) {
                    output.add(v);
                }
                return on;
            }
        }
    }

    int look(int what) {
        Map<Integer, Integer> all = new LinkedHashMap<>();
        boolean runs = status == 1;
        int[] values = {status, result, done, runs ? current.number : -1, runs ? place : -1, runs ? base : -1,
            runs ? pile.size() : 0, low, spills, fills, hits, misses, next, steps, collections, collecting ? 1 : 0,
            used, collecting ? top : 0, collecting ? left : 0, heap.size(), output.size(), input.size(), taken, active,
            classes == null ? 0 : classes.size(), methods == null ? 0 : methods.size(), tape.size()};
        for (int i = 0; i < values.length; i++) {
            all.put(i, values[i]);
        }
        return all.getOrDefault(what, -1);
    }

    long cycles() {
        return status == 0 ? -1 : cycles;
    }

    int pile(int i, int what) {
        if (status != 1 || i < 0 || i >= pile.size() || what != 0 && what != 1) {
            throw new NoSuchElementException();
        }
        return what == 0 ? pile.get(i).value : pile.get(i).ref ? 1 : 0;
    }

    int handle(int h, int what) {
        Thing t = heap.get(h);
        if (t == null || what < 0 || what > 4) {
            return -1;
        }
        return new int[] {t.klass == null ? -2 : t.klass.number, t.words, t.at, t.space, collecting ? t.colour : 2}[what];
    }

    int word(int h, int i) {
        Thing t = heap.get(h);
        if (t == null || i < 0 || i >= t.words) {
            throw new NoSuchElementException();
        }
        return spaces[t.space][t.at + i];
    }

    int out(int i) {
        if (i < 0 || i >= output.size()) {
            throw new NoSuchElementException();
        }
        return output.get(i);
    }

    int cached(int i) {
        return i < 0 || i >= k || blocks[i] == null ? -1 : blocks[i];
    }

    boolean collect() {
        if (status != 1 || collecting) {
            return false;
        }
        beginCollection();
        return true;
    }
}
