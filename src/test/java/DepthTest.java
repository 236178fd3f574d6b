import java.util.Arrays;

/** Promises 4, 6, 8, 9 and 12 with classes as deep, and METHODS as long, as an image has them: no way up is too long. */
public final class DepthTest extends Ops {
    private static final Check CHECK = new Check("DepthTest");
    /** A tree of 16 classes: 0 1 2 .. 9 one below the other, 10 .. 14 below 4 one below the other, 15 below 0. */
    private static final int[] ABOVE = {NO, 0, 1, 2, 3, 4, 5, 6, 7, 8, 4, 10, 11, 12, 13, 0};

    private DepthTest() {
    }

    private static Images tree() {
        Images all = new Images();
        for (int c = 0; c < 16; c++) {
            if (c == 1) {
                all.klass(0, 0);
            } else {
                all.klass(ABOVE[c]);
            }
        }
        return all;
    }

    private static boolean isBelow(int c, int above) {
        for (int now = c; now != NO; now = ABOVE[now]) {
            if (now == above) {
                return true;
            }
        }
        return false;
    }

    private static int nearest(int a, int b) {
        int now = a;
        while (!isBelow(b, now)) {
            now = ABOVE[now];
        }
        return now;
    }

    /** Types of 15 classes one below the other, six fields each: f % 3 is 0: INT, 1: ROW, 2: a class that f tells. */
    private static int typeOf(int f) {
        return f % 3 < 2 ? f % 3 : 2 + f % 16;
    }

    private static Images fields() {
        Images all = new Images().klass(NO);
        for (int c = 1; c < 16; c++) {
            int[] types = new int[6];
            for (int f = 0; f < 6; f++) {
                types[f] = typeOf(6 * (c - 1) + f);
            }
            all.klass(c - 1, types);
        }
        return all;
    }

    private static void fieldTypes() {
        ByteProcessor x = fields().main(0, p(), NO, 0, c(RET)).loaded();
        for (int f = 0; f < 90; f++) {
            CHECK.same("field " + f + " of class 15", x.klass(15, 3 + f), typeOf(f));
        }
        CHECK.same("no field 90", x.klass(15, 93), -1);
        for (int c = 1; c < 16; c++) {
            CHECK.same("all of " + c, x.klass(c, 2), 6 * c);
            CHECK.same("the last of " + c, x.klass(c, 3 + 6 * c - 1), typeOf(6 * c - 1));
            CHECK.same("the first of " + c, x.klass(c, 3), 0);
            CHECK.same("none behind the last of " + c, x.klass(c, 3 + 6 * c), -1);
        }
    }

    /** Own fields of class c when two ways up lie side by side: other numbers of them, and other TYPES. */
    private static int ownFields(int c) {
        return c == 0 ? 0 : 1 + c * 5 % 6;
    }

    private static int ownType(int c, int f) {
        return c == 1 && f == 0 ? 0 : (7 * c + 3 * f) % 18;
    }

    /** All TYPES of class c, those of the classes above first; the SUPER of c is c - 2. */
    private static int[] allTypes(int c) {
        int[] above = c < 3 ? new int[0] : allTypes(c - 2);
        int[] all = Arrays.copyOf(above, above.length + ownFields(c));
        for (int f = 0; f < ownFields(c); f++) {
            all[above.length + f] = ownType(c, f);
        }
        return all;
    }

    private static void fieldTypesSideBySide() {
        Images image = new Images().klass(NO);
        for (int c = 1; c < 16; c++) {
            int[] all = allTypes(c);
            image.klass(Math.max(0, c - 2), Arrays.copyOfRange(all, all.length - ownFields(c), all.length));
        }
        ByteProcessor x = image.main(0, p(), NO, 0, c(RET)).loaded();
        for (int c = 0; c < 16; c++) {
            int[] want = allTypes(c);
            int[] got = new int[x.klass(c, 2)];
            for (int f = 0; f < got.length; f++) {
                got[f] = x.klass(c, 3 + f);
            }
            CHECK.all("TYPES of class " + c, got, want);
            CHECK.same("own FIELDS of class " + c, x.klass(c, 1), ownFields(c));
            CHECK.same("SUPER of class " + c, x.klass(c, 0), c == 0 ? -1 : Math.max(0, c - 2));
        }
    }

    /** GET and PUT of each of 90 fields, at whichever class above it is told. */
    private static void fieldWords() {
        for (int f = 0; f < 90; f++) {
            int holder = 1 + f / 6;
            int told = holder + (15 - holder) * (f % 3) / 2;
            int[] value = typeOf(f) == 0 ? c(PUSH, f) : typeOf(f) == 1 ? c(PUSH, 1, ROW) : c(NEW, 15);
            int[] code = Arrays.copyOf(c(NEW, 15, DUP), 3 + value.length + 7);
            System.arraycopy(value, 0, code, 3, value.length);
            System.arraycopy(c(PUT, told, f, GET, told, f, RETV), 0, code, 3 + value.length, 7);
            ByteProcessor x = fields().main(0, p(), typeOf(f), 0, code).loaded();
            CHECK.same("GET " + f + " gives", x.type(0, code.length - 1, 100), typeOf(f));
            x.begin(0, 0, 0);
            x.go(20);
            CHECK.same("field " + f, x.look(1), typeOf(f) == 0 ? f : 2);
            for (int i = 0; i < 90; i++) {
                CHECK.same("word " + i + " behind PUT " + f, x.word(1, i), i != f ? 0 : typeOf(f) == 0 ? f : 2);
            }
        }
    }

    private static void fits() {
        for (int c = 0; c < 16; c++) {
            for (int above = 0; above < 16; above++) {
                ByteProcessor x = new ByteProcessor(2, 8, 16, 0);
                int want = isBelow(c, above) ? 0 : 2;
                CHECK.same("class " + c + " as a RESULT of class " + above,
                    tree().main(0, p(), 2 + above, 0, c(NEW, c, RETV)).loadInto(x), want);
                CHECK.same("class " + c + " as a PARAMETER of class " + above,
                    tree().main(0, p(), NO, 0, c(NEW, c, CALL, 1, RET)).main(1, p(2 + above), NO, 1, c(RET)).loadInto(x), want);
            }
        }
    }

    private static void joins() {
        for (int a = 0; a < 16; a++) {
            for (int b = 0; b < 16; b++) {
                ByteProcessor x = tree().main(0, p(0), NO, 1, c(
                    NEW, a, LOAD, 0, IF0, 9, POP, NEW, b, STORE, 0, RET)).loaded();
                CHECK.same("words of " + a + " and " + b, x.type(0, 9, 100), 2 + nearest(a, b));
                CHECK.same("LOCALS of " + a + " and " + b, x.type(0, 11, 0), 2 + nearest(a, b));
            }
        }
    }

    /** An object of class a, THROWN to a HANDLER of class b, CAST to b, asked whether it IS of b. */
    private static void running() {
        for (int a = 0; a < 16; a++) {
            for (int b = 0; b < 16; b++) {
                ByteProcessor x = tree()
                    .main(0, p(), 0, 0, c(NEW, a, THROW, POP, PUSH, 1, RETV), new int[] {0, 3, 3, b})
                    .main(1, p(), 0, 0, c(NEW, a, CAST, b, POP, PUSH, 1, RETV))
                    .main(2, p(), 0, 0, c(NEW, a, IS, b, RETV)).loaded();
                int want = isBelow(a, b) ? 1 : 0;
                x.begin(0, 0, 0);
                x.go(9);
                CHECK.same("class " + a + " THROWN to a HANDLER of " + b, x.look(0), want == 1 ? 2 : 3);
                x.begin(1, 0, 0);
                x.go(9);
                CHECK.same("CAST of class " + a + " to " + b, x.look(0), want == 1 ? 2 : 3);
                x.begin(2, 0, 0);
                x.go(9);
                CHECK.same("class " + a + " IS " + b, x.look(1), want);
            }
        }
    }

    /** What class 0 has is in every TABLE and is OVERRIDDEN from far below, with the same TYPES. */
    private static void overrides() {
        for (int c = 1; c < 16; c++) {
            Images image = tree().method(0, 5, 0, p(0, 1), 1, 3, c(NULL, RETV)).method(0, 6, 1, p(), 1, 0, c(
                NEW, c, PUSH, 7, NULL, CALLV, 0, RETV)).method(c, 5, 0, p(0, 1), 1, 3, c(LOAD, 1, ROW, RETV));
            ByteProcessor x = image.loaded();
            for (int each = 0; each < 16; each++) {
                CHECK.same("TABLE of " + each + ", " + c + " OVERRIDES", x.table(each, 5), isBelow(each, c) ? 2 : 0);
                CHECK.same("a STATIC one is in none", x.table(each, 6), -1);
            }
            x.begin(1, 0, 0);
            x.go(20);
            CHECK.same("its own one was called", x.handle(x.look(1), 1), 7);
            int[] bytes = image.bytes();
            int at = bytes.length - 3 - 1 - 1 - 1 - 1 - 1 - 2 - 1;
            for (int wrong = at; wrong < at + 4; wrong++) {
                int[] other = bytes.clone();
                other[wrong] = other[wrong] == 2 ? 1 : 2;
                Images.feed(x, other);
                CHECK.same("an other byte " + (wrong - at) + " of one that OVERRIDES", x.load(), 1);
                CHECK.same("told there", x.fault(1), wrong);
            }
        }
    }

    /** PLACES are those of the METHOD alone: where the one ahead has PLACES, OPERANDS of this one are none. */
    private static void placesAhead() {
        int[] all = new int[250];
        Arrays.fill(all, RET);
        for (int target = 3; target < 248; target++) {
            // Behind the JUMP all is PUSH 0: 17 of them are too many, fewer come to the end.
            int[] code = new int[250];
            code[0] = JUMP;
            code[1] = target;
            ByteProcessor x = new ByteProcessor(2, 8, 16, 0);
            int answer = Images.plain().main(0, p(), NO, 0, all).main(1, p(), NO, 0, code).loadInto(x);
            CHECK.same("load", answer, 2);
            CHECK.same("METHOD", x.fault(2), 1);
            boolean isPlace = target % 2 == 0;
            CHECK.same("why, TARGET " + target, x.fault(3), isPlace ? target <= 216 ? 6 : 7 : 3);
        }
    }

    /** A METHOD that is refused leaves PLACES TO DO, which are not done in the next one. */
    private static void toDoAhead() {
        int[] later = new int[250];
        Arrays.fill(later, RET);
        for (int target = 5; target < 250; target++) {
            int[] code = later.clone();
            System.arraycopy(c(PUSH, 0, IF0, target, POP), 0, code, 0, 5);
            ByteProcessor x = new ByteProcessor(2, 8, 16, 0);
            CHECK.same("refused at POP", Images.plain().main(0, p(), NO, 0, code).loadInto(x), 2);
            CHECK.same("why", x.fault(3) * 1000 + x.fault(4), 4004);
            CHECK.same("the next one", Images.plain().main(0, p(), NO, 0, later).loadInto(x), 0);
            CHECK.same("a STATE, TARGET " + target, x.method(0, 8), 1);
            CHECK.same("done once, TARGET " + target, x.method(0, 9), 1);
            CHECK.same("none there", x.type(0, target, -1), -1);
        }
    }

    public static void main(String[] args) {
        fieldTypes();
        fieldTypesSideBySide();
        fieldWords();
        fits();
        joins();
        running();
        overrides();
        placesAhead();
        toDoAhead();
        CHECK.end();
    }
}
