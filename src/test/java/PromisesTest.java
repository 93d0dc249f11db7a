/** Each promise of the document by worked examples: ordinary inputs, edges, and wrong inputs. */
public final class PromisesTest {
    private static final int NONE = -1;
    private static final int LOW = Integer.MIN_VALUE;
    private static final int HIGH = Integer.MAX_VALUE;
    private static final Class<?> NO_INDEX = IndexOutOfBoundsException.class;
    private static final Class<?> BAD = IllegalArgumentException.class;
    private static final Class<?> STATE = IllegalStateException.class;

    private static int wrong = 0;

    private interface Call {
        void run();
    }

    public static void main(String[] args) {
        promise1();
        promise2();
        promise3();
        promise4();
        promise5();
        promise6();
        promise7();
        promise8();
        promise9();
        promise9ByKind();
        promises10And11();
        promise12();
        promise13();
        promise14();
        promise15();
        promise16();
        promise17();
        promise18();
        promise19();
        promise20();
        promise21();
        promise22();
        promise23();
        promise24();
        promise25();
        promise26();
        System.out.println(wrong == 0 ? "all promises hold" : wrong + " answers are not as due");
        if (wrong != 0) {
            System.exit(1);
        }
    }

    private static void is(String call, long got, long due) {
        if (got != due) {
            wrong++;
            System.out.println(call + " answered " + got + ", due is " + due);
        }
    }

    private static void isDouble(String call, double got, double due) {
        if (Double.compare(got, due) != 0) {
            wrong++;
            System.out.println(call + " answered " + got + ", due is " + due);
        }
    }

    /** The call throws exactly that, and the digest stays (TermsEdgesTest looks at all of the bench). */
    private static void fails(String call, Diffractory x, Class<?> due, Call run) {
        long before = x.digest();
        Class<?> got = null;
        try {
            run.run();
        } catch (RuntimeException e) {
            got = e.getClass();
        }
        if (got != due) {
            wrong++;
            System.out.println(call + " threw " + got + ", due is " + due);
        }
        if (before != x.digest()) {
            wrong++;
            System.out.println(call + " changed the bench");
        }
    }

    private static void row(String name, Diffractory x, int part, long[] wholes, long[] roots) {
        for (int place = 0; place < 8; place++) {
            is(name + ": whole(" + part + ", " + place + ")", x.whole(part, place), wholes[place]);
            is(name + ": root(" + part + ", " + place + ")", x.root(part, place), roots[place]);
        }
    }

    /** X's a to d, then Y's, in one PLACE. */
    private static void amplitudes(String name, Diffractory x, int part, int source, int place, long... due) {
        for (int what = 0; what < 8; what++) {
            is(name + ": amplitude(" + part + ", " + source + ", " + place + ", " + what + ")",
                x.amplitude(part, source, place, what), due[what]);
        }
    }

    /** Two slits: 1 + W^k behind the last PART, in the PLACE k. */
    private static Diffractory twoSlits(int slits) {
        Diffractory x = new Diffractory();
        x.source(0, 0, 1);
        x.part(2, 0);
        x.part(0, slits);
        x.part(2, 0);
        return x;
    }

    /** Three SOURCES, one PART of each of the KINDS 0, 7, 4, 10. */
    private static Diffractory mixed() {
        Diffractory x = new Diffractory();
        x.source(1, 2, 3);
        x.source(4, 5, 6);
        x.source(7, 7, 9);
        x.part(0, 254);
        x.part(7, 0);
        x.part(4, 3);
        x.part(10, 2);
        return x;
    }

    private static void promise1() {
        Diffractory x = new Diffractory();
        is("new: many(0)", x.many(0), 0);
        is("new: many(1)", x.many(1), 0);
        is("new: many(2)", x.many(2), 0);
        is("new: many(3)", x.many(3), NONE);
        is("new: many(4)", x.many(4), 0);
        is("new: power", x.power(NONE, false), 0);
        Diffractory other = new Diffractory();
        other.source(0, 0, 1);
        other.part(2, 0);
        is("new: another bench is its own", x.many(0) + x.many(1), 0);
        fails("new: whole(0, 0)", x, NO_INDEX, () -> x.whole(0, 0));
        fails("new: ofSource(0, 0)", x, NO_INDEX, () -> x.ofSource(0, 0));
    }

    private static void promise2() {
        Diffractory x = new Diffractory();
        for (int bad : new int[] {-1, 8, LOW, HIGH}) {
            fails("source, place " + bad, x, BAD, () -> x.source(bad, 0, 1));
            fails("source, phase " + bad, x, BAD, () -> x.source(0, bad, 1));
        }
        for (int bad : new int[] {0, 10, -1, LOW, HIGH}) {
            fails("source, strength " + bad, x, BAD, () -> x.source(0, 0, bad));
        }
        is("source(0, 0, 1)", x.source(0, 0, 1), 0);
        is("source(7, 7, 9)", x.source(7, 7, 9), 1);
        is("source(3, 4, 5)", x.source(3, 4, 5), 2);
        is("source: how many", x.many(0), 3);
        fails("source, a fourth", x, STATE, () -> x.source(0, 0, 1));
        fails("source, a fourth and wrong", x, BAD, () -> x.source(8, 0, 1));
        is("source: strength", x.ofSource(1, 2), 9);
        is("source: its light", x.whole(NONE, 7), 81);
    }

    private static void promise3() {
        Diffractory x = new Diffractory();
        fails("move, none", x, NO_INDEX, () -> x.move(0, 0, 0, 1));
        fails("move, none and wrong", x, NO_INDEX, () -> x.move(0, 8, 0, 1));
        x.source(1, 2, 3);
        x.source(4, 5, 6);
        is("move", x.move(1, 7, 0, 9), 6);
        is("move again", x.move(1, 0, 7, 1), 9);
        is("move: place", x.ofSource(1, 0), 0);
        is("move: phase", x.ofSource(1, 1), 7);
        is("move: strength", x.ofSource(1, 2), 1);
        is("move: the other one stays", x.ofSource(0, 0), 1);
        is("move: light", x.whole(NONE, 4), 0);
        is("move: light", x.whole(NONE, 0), 1);
        is("move: makes none", x.many(0), 2);
        for (int bad : new int[] {-1, 2, 3, LOW, HIGH}) {
            fails("move, source " + bad, x, NO_INDEX, () -> x.move(bad, 0, 0, 1));
        }
        for (int bad : new int[] {-1, 8, LOW, HIGH}) {
            fails("move, place " + bad, x, BAD, () -> x.move(0, bad, 0, 1));
            fails("move, phase " + bad, x, BAD, () -> x.move(0, 0, bad, 1));
        }
        for (int bad : new int[] {0, 10, LOW, HIGH}) {
            fails("move, strength " + bad, x, BAD, () -> x.move(0, 0, 0, bad));
        }
    }

    private static final int[] LEAST = {0, 0, 0, 0, 0, 0, 1, 0, 0, 0, 0};
    private static final int[] MOST = {255, 16777215, 0, 0, 7, 0, 3, 0, 7, 0, 3};

    private static void promise4() {
        for (int k = 0; k <= 10; k++) {
            int kind = k;
            Diffractory x = new Diffractory();
            fails("part, number too small of " + kind, x, BAD, () -> x.part(kind, LEAST[kind] - 1));
            fails("part, number too great of " + kind, x, BAD, () -> x.part(kind, MOST[kind] + 1));
            is("part, least of " + kind, x.part(kind, LEAST[kind]), 0);
            is("part, most of " + kind, x.part(kind, MOST[kind]), 1);
            is("part: kind", x.ofPart(1, 0), kind);
            is("part: number", x.ofPart(1, 1), MOST[kind]);
            is("part: in", x.ofPart(1, 2), 1);
            is("part: clean", x.ofPart(1, 3), 0);
        }
        Diffractory x = new Diffractory();
        for (int bad : new int[] {-1, 11, LOW, HIGH}) {
            fails("part, kind " + bad, x, BAD, () -> x.part(bad, 0));
        }
        for (int i = 0; i < 8; i++) {
            is("part, the next one", x.part(6, 2), i);
        }
        fails("part, a ninth", x, STATE, () -> x.part(5, 0));
        fails("part, a ninth and wrong", x, BAD, () -> x.part(6, 0));
        is("part: how many", x.many(1), 8);
        x.source(0, 0, 1);
        is("part: all in their order", x.whole(7, 0), 65536);
    }

    private static void promise5() {
        for (int k = 0; k <= 10; k++) {
            int kind = k;
            Diffractory x = new Diffractory();
            fails("set, none", x, NO_INDEX, () -> x.set(0, LEAST[kind]));
            x.part(kind, LEAST[kind]);
            is("set, most of " + kind, x.set(0, MOST[kind]), LEAST[kind]);
            is("set, least of " + kind, x.set(0, LEAST[kind]), MOST[kind]);
            fails("set, number too small of " + kind, x, BAD, () -> x.set(0, LEAST[kind] - 1));
            fails("set, number too great of " + kind, x, BAD, () -> x.set(0, MOST[kind] + 1));
            fails("set, no such part and wrong", x, NO_INDEX, () -> x.set(1, MOST[kind] + 1));
            fails("set, part -1", x, NO_INDEX, () -> x.set(-1, LEAST[kind]));
        }
        Diffractory x = mixed();
        x.expose(1, 1);
        is("set, a plate", x.set(1, 0), 0);
        is("set: exposures stay", x.ofPart(1, 4), 27);
        is("set: light before", x.whole(2, 4), 0);
        is("set, the roll", x.set(2, 7), 3);
        is("set: number", x.ofPart(2, 1), 7);
    }

    private static void promise6() {
        Diffractory x = new Diffractory();
        fails("put, none", x, NO_INDEX, () -> x.put(0, true));
        x.source(2, 0, 2);
        x.part(6, 3);
        x.part(4, 1);
        is("put out", x.put(0, false) ? 1 : 0, 1);
        is("put out again", x.put(0, false) ? 1 : 0, 0);
        is("put: as if it was not there", x.whole(0, 2), 4);
        is("put: the next one still works", x.whole(1, 3), 4);
        is("put: number stays", x.ofPart(0, 1), 3);
        is("put in", x.put(0, true) ? 1 : 0, 0);
        is("put in again", x.put(0, true) ? 1 : 0, 1);
        is("put: there again", x.whole(1, 3), 36);
        for (int bad : new int[] {-1, 2, 8, LOW, HIGH}) {
            fails("put, part " + bad, x, NO_INDEX, () -> x.put(bad, false));
        }
    }

    private static void promise7() {
        Diffractory x = new Diffractory();
        fails("dirt, none", x, NO_INDEX, () -> x.dirt(0, 0));
        x.source(2, 0, 2);
        x.source(3, 0, 1);
        x.part(4, 1);
        is("dirt", x.dirt(0, 8), 0);
        is("dirt: behind it", x.whole(0, 3), 0);
        is("dirt: not elsewhere", x.whole(0, 4), 1);
        is("dirt: not ahead of it", x.whole(NONE, 3), 1);
        x.put(0, false);
        is("dirt: not if out", x.whole(0, 3), 1);
        is("dirt: not if out", x.whole(0, 2), 4);
        x.put(0, true);
        is("dirt, all", x.dirt(0, 255), 8);
        is("dirt: all dark", x.power(0, false), 0);
        is("dirt, none any more", x.dirt(0, 0), 255);
        is("dirt: gone", x.power(0, false), 5);
        for (int bad : new int[] {-1, 256, LOW, HIGH}) {
            fails("dirt, places " + bad, x, BAD, () -> x.dirt(0, bad));
            fails("dirt, part 1 and places " + bad, x, NO_INDEX, () -> x.dirt(1, bad));
        }
        fails("dirt, part -1", x, NO_INDEX, () -> x.dirt(-1, 0));
        x.part(8, 0);
        x.part(9, 0);
        x.part(5, 0);
        x.dirt(3, 16);
        is("dirt: Y too", x.power(2, false), 5);
        is("dirt: Y too", x.power(3, false), 1);
    }

    private static void promise8() {
        Diffractory x = new Diffractory();
        fails("expose, none", x, NO_INDEX, () -> x.expose(0, 0));
        x.source(1, 0, 9);
        x.source(6, 0, 4);
        x.part(7, 0);
        x.part(5, 0);
        for (int bad : new int[] {0, 101, -1, LOW, HIGH}) {
            fails("expose, divisor " + bad, x, BAD, () -> x.expose(0, bad));
            fails("expose, no plate and divisor " + bad, x, BAD, () -> x.expose(1, bad));
            fails("expose, no part and divisor " + bad, x, NO_INDEX, () -> x.expose(2, bad));
        }
        fails("expose, part -1", x, NO_INDEX, () -> x.expose(-1, 1));
        fails("expose, no plate", x, STATE, () -> x.expose(1, 1));
        is("expose by 100: 0.81 rounded down", x.expose(0, 100), 0);
        is("expose by 100: counted", x.ofPart(0, 5), 1);
        is("expose by 17: 81/17 is 4, 16/17 is 0", x.expose(0, 17), 4);
        is("expose by 16: 5 and 1 more", x.expose(0, 16), 10);
        is("expose: at most 9", x.exposure(0, 1), 9);
        is("expose: by 16", x.exposure(0, 6), 1);
        is("expose by 1: at most 9", x.expose(0, 1), 18);
        is("expose by 1: stays at 9", x.expose(0, 1), 18);
        is("expose: dark there", x.power(0, false), 0);
        is("expose: counted", x.many(4), 5);
        x.put(0, false);
        fails("expose, out", x, STATE, () -> x.expose(0, 1));
        fails("expose, out and divisor 0", x, BAD, () -> x.expose(0, 0));
        Diffractory y = new Diffractory();
        y.source(0, 0, 1);
        y.part(2, 0);
        y.part(0, 3);
        y.part(2, 0);
        y.part(7, 0);
        is("expose: WHOLE alone, not VALUE", y.expose(3, 1), 4 + 2 + 2 + 2 + 0 + 2 + 2 + 2);
        is("expose: 9 less that", y.whole(3, 0), 4 * 25);
        is("expose: 9 less that, ROOT", y.root(3, 1), 49);
    }

    private static void promise9() {
        Diffractory x = new Diffractory();
        fails("amplitude, no source", x, NO_INDEX, () -> x.amplitude(NONE, 0, 0, 0));
        long[][] turned = {{5, 0, 0, 0}, {0, 5, 0, 0}, {0, 0, 5, 0}, {0, 0, 0, 5},
            {-5, 0, 0, 0}, {0, -5, 0, 0}, {0, 0, -5, 0}, {0, 0, 0, -5}};
        x.source(4, 0, 5);
        for (int phase = 0; phase < 8; phase++) {
            x.move(0, 4, phase, 5);
            long[] t = turned[phase];
            amplitudes("phase " + phase, x, NONE, 0, 4, t[0], t[1], t[2], t[3], 0, 0, 0, 0);
            amplitudes("phase " + phase, x, NONE, 0, 3, 0, 0, 0, 0, 0, 0, 0, 0);
        }
        x.source(4, 1, 2);
        amplitudes("sources go by themselves", x, NONE, 1, 4, 0, 2, 0, 0, 0, 0, 0, 0);
        x.part(6, 2);
        x.put(0, false);
        x.part(6, 3);
        amplitudes("out, as behind the one ahead", x, 0, 1, 4, 0, 2, 0, 0, 0, 0, 0, 0);
        amplitudes("behind the last", x, 1, 1, 4, 0, 6, 0, 0, 0, 0, 0, 0);
        for (int bad : new int[] {-2, 2, LOW, HIGH}) {
            fails("amplitude, part " + bad, x, NO_INDEX, () -> x.amplitude(bad, 0, 0, 8));
            fails("amplitude, source " + bad, x, NO_INDEX, () -> x.amplitude(NONE, bad, 0, 8));
        }
        fails("amplitude, source -1", x, NO_INDEX, () -> x.amplitude(NONE, -1, 0, 0));
        for (int bad : new int[] {-1, 8, LOW, HIGH}) {
            fails("amplitude, place " + bad, x, NO_INDEX, () -> x.amplitude(NONE, 0, bad, -1));
            fails("amplitude, what " + bad, x, BAD, () -> x.amplitude(NONE, 0, 0, bad));
        }
    }

    private static void promise9ByKind() {
        Diffractory x = new Diffractory();
        x.source(2, 3, 2);
        x.part(0, 4);
        amplitudes("mask with the place", x, 0, 0, 2, 0, 0, 0, 2, 0, 0, 0, 0);
        x.set(0, 251);
        amplitudes("mask without the place", x, 0, 0, 2, 0, 0, 0, 0, 0, 0, 0, 0);
        x.set(0, 255);
        x.part(1, 0500);
        amplitudes("phases", x, 1, 0, 2, 2, 0, 0, 0, 0, 0, 0, 0);
        x.set(1, 077777077);
        amplitudes("phases elsewhere", x, 1, 0, 2, 0, 0, 0, 2, 0, 0, 0, 0);
        x.part(2, 0);
        amplitudes("far, W^(2 3) W^3 is W", x, 2, 0, 3, 0, 2, 0, 0, 0, 0, 0, 0);
        amplitudes("far, W^(2 0) W^3", x, 2, 0, 0, 0, 0, 0, 2, 0, 0, 0, 0);
        x.put(2, false);
        x.part(3, 0);
        amplitudes("back, W^-(2 1) W^3 is W", x, 3, 0, 1, 0, 2, 0, 0, 0, 0, 0, 0);
        amplitudes("back, W^-(2 3) W^3 is -W", x, 3, 0, 3, 0, -2, 0, 0, 0, 0, 0, 0);
        x.put(2, true);
        amplitudes("far and back", x, 3, 0, 2, 0, 0, 0, 16, 0, 0, 0, 0);
        amplitudes("far and back", x, 3, 0, 6, 0, 0, 0, 0, 0, 0, 0, 0);

        Diffractory y = new Diffractory();
        y.source(6, 0, 1);
        y.part(4, 3);
        amplitudes("roll", y, 0, 0, 1, 1, 0, 0, 0, 0, 0, 0, 0);
        y.part(5, 0);
        amplitudes("flip", y, 1, 0, 6, 1, 0, 0, 0, 0, 0, 0, 0);
        y.part(6, 3);
        amplitudes("film", y, 2, 0, 6, 3, 0, 0, 0, 0, 0, 0, 0);
        y.part(7, 0);
        amplitudes("plate", y, 3, 0, 6, 27, 0, 0, 0, 0, 0, 0, 0);
        y.expose(3, 2);
        amplitudes("plate, 4 less", y, 3, 0, 6, 15, 0, 0, 0, 0, 0, 0, 0);

        Diffractory z = new Diffractory();
        z.source(5, 1, 1);
        z.part(8, 3);
        amplitudes("retard leaves X", z, 0, 0, 5, 0, 1, 0, 0, 0, 0, 0, 0);
        z.part(9, 0);
        amplitudes("swap", z, 1, 0, 5, 0, 0, 0, 0, 0, 1, 0, 0);
        z.part(8, 2);
        amplitudes("retard turns Y", z, 2, 0, 5, 0, 0, 0, 0, 0, 0, 0, 1);
        z.part(10, 3);
        amplitudes("polar 3", z, 3, 0, 5, 0, 0, 0, -1, 0, 0, 0, 1);
        z.part(10, 0);
        amplitudes("polar 0", z, 4, 0, 5, 0, 0, 0, -1, 0, 0, 0, 0);
        z.set(4, 1);
        amplitudes("polar 1", z, 4, 0, 5, 0, 0, 0, 0, 0, 0, 0, 1);
        z.set(4, 3);
        amplitudes("polar 3 twice", z, 4, 0, 5, 0, 0, 0, -2, 0, 0, 0, 2);
        z.set(4, 2);
        amplitudes("polar 2 of X and -X", z, 4, 0, 5, 0, 0, 0, 0, 0, 0, 0, 0);
        z.part(9, 0);
        z.set(4, 1);
        amplitudes("swap, Y to X", z, 5, 0, 5, 0, 0, 0, 1, 0, 0, 0, 0);
        z.set(3, 2);
        amplitudes("polar 2", z, 3, 0, 5, 0, 0, 0, 1, 0, 0, 0, 1);
    }

    private static void promises10And11() {
        Diffractory x = twoSlits(3);
        row("two slits", x, 2, new long[] {4, 2, 2, 2, 0, 2, 2, 2}, new long[] {0, 1, 0, -1, 0, -1, 0, 1});
        row("behind the mask", x, 1, new long[] {1, 1, 0, 0, 0, 0, 0, 0}, new long[8]);
        row("behind far", x, 0, new long[] {1, 1, 1, 1, 1, 1, 1, 1}, new long[8]);
        row("ahead of all", x, NONE, new long[] {1, 0, 0, 0, 0, 0, 0, 0}, new long[8]);
        x.source(4, 5, 3);
        row("another source adds, and does not mix", x, 2,
            new long[] {4, 20, 20, 20, 36, 20, 20, 20}, new long[] {0, -8, 0, 8, 0, 8, 0, -8});
        x.put(1, false);
        row("out, as behind the one ahead", x, 1, new long[] {10, 10, 10, 10, 10, 10, 10, 10}, new long[8]);
        for (int bad : new int[] {-2, 3, 8, LOW, HIGH}) {
            fails("whole, part " + bad, x, NO_INDEX, () -> x.whole(bad, 0));
            fails("root, part " + bad, x, NO_INDEX, () -> x.root(bad, 0));
        }
        for (int bad : new int[] {-1, 8, LOW, HIGH}) {
            fails("whole, place " + bad, x, NO_INDEX, () -> x.whole(0, bad));
            fails("root, place " + bad, x, NO_INDEX, () -> x.root(NONE, bad));
        }
        Diffractory w = twoSlits(3);
        w.move(0, 0, 3, 1);
        is("ROOT, W^3 and W^4", w.root(2, 1), 1);
        w.move(0, 0, 2, 1);
        is("ROOT, W^2 and W^3", w.root(2, 1), 1);
        w.put(2, false);
        w.part(10, 3);
        w.part(8, 1);
        w.part(2, 0);
        row("X and Y together, both through far", w, 5,
            new long[] {8, 4, 4, 4, 0, 4, 4, 4}, new long[] {0, 2, 0, -2, 0, -2, 0, 2});
        amplitudes("X is W^2 (1 + W^3), Y -W^3 (1 + W^3)", w, 5, 0, 3, 0, -1, 1, 0, 0, 0, 1, -1);
        Diffractory y = new Diffractory();
        y.source(0, 0, 9);
        y.source(0, 1, 9);
        y.source(0, 2, 9);
        for (int part = 0; part < 8; part++) {
            y.part(7, 0);
        }
        is("the greatest WHOLE", y.whole(7, 0), 3 * 150094635296999121L);
    }

    private static void promise12() {
        Diffractory x = twoSlits(3);
        is("power ahead of all", x.power(NONE, false), 1);
        is("power behind far", x.power(0, false), 8);
        is("power behind the mask", x.power(1, false), 2);
        is("power behind far again", x.power(2, false), 16);
        is("power, ROOT", x.power(2, true), 0);
        x.dirt(2, 2);
        is("power, dirty", x.power(2, false), 14);
        is("power, dirty, ROOT", x.power(2, true), -1);
        x.dirt(2, 8 + 32);
        is("power, dirty, ROOT above 0", x.power(2, true), 2);
        x.put(2, false);
        is("power behind one that is out", x.power(2, false), 2);
        for (int bad : new int[] {-2, 3, LOW, HIGH}) {
            fails("power, part " + bad, x, NO_INDEX, () -> x.power(bad, true));
            fails("power, part " + bad, x, NO_INDEX, () -> x.power(bad, false));
        }
    }

    private static void promise13() {
        is("brightest, empty", new Diffractory().brightest(NONE), 0);
        Diffractory x = twoSlits(3);
        is("brightest, two slits", x.brightest(2), 0);
        x.dirt(2, 1);
        is("brightest, of 1 and 7 the smaller", x.brightest(2), 1);
        x.dirt(2, 3);
        is("brightest, by ROOT", x.brightest(2), 7);
        x.dirt(2, 131);
        is("brightest, 2 as 6, above 3 and 5 by ROOT alone", x.brightest(2), 2);
        x.dirt(2, 255 - 8 - 64);
        is("brightest, a ROOT below 0", x.brightest(2), 6);
        x.dirt(2, 255 - 16 - 32);
        is("brightest, last ones", x.brightest(2), 5);
        is("brightest, behind far", x.brightest(0), 0);
        is("brightest, ahead of all", x.brightest(NONE), 0);
        for (int bad : new int[] {-2, 3, LOW, HIGH}) {
            fails("brightest, part " + bad, x, NO_INDEX, () -> x.brightest(bad));
        }
    }

    private static void promise14() {
        is("dark, empty", new Diffractory().dark(NONE), 255);
        Diffractory x = twoSlits(3);
        is("dark, two slits", x.dark(2), 16);
        is("dark, behind the mask", x.dark(1), 252);
        is("dark, behind far", x.dark(0), 0);
        is("dark, ahead of all", x.dark(NONE), 254);
        x.dirt(2, 129);
        is("dark, dirty", x.dark(2), 145);
        x.put(2, false);
        is("dark, out", x.dark(2), 252);
        for (int bad : new int[] {-2, 3, LOW, HIGH}) {
            fails("dark, part " + bad, x, NO_INDEX, () -> x.dark(bad));
        }
    }

    private static void promise15() {
        is("period, empty", new Diffractory().period(NONE), 1);
        Diffractory x = twoSlits(3);
        is("period, ahead of all", x.period(NONE), 8);
        is("period, behind far", x.period(0), 1);
        is("period, slits 0 and 1", x.period(2), 8);
        x.set(1, 5);
        is("period, slits 0 and 2", x.period(2), 4);
        x.set(1, 17);
        is("period, slits 0 and 4", x.period(2), 2);
        is("period, behind the mask", x.period(1), 4);
        x.set(1, 1);
        is("period, one slit", x.period(2), 1);
        x.set(1, 3);
        x.dirt(2, 1 + 4 + 16 + 64);
        is("period, only ROOT differs", x.period(2), 8);
        x.put(2, false);
        is("period, out", x.period(2), 8);
        for (int bad : new int[] {-2, 3, LOW, HIGH}) {
            fails("period, part " + bad, x, NO_INDEX, () -> x.period(bad));
        }
    }

    private static void promise16() {
        isDouble("clear, empty", new Diffractory().clear(NONE), 0.0);
        Diffractory x = twoSlits(3);
        isDouble("clear, two slits", x.clear(2), 1.0);
        isDouble("clear, behind far", x.clear(0), 0.0);
        x.source(2, 0, 1);
        // |1 + W^k|^2 + |1 + W^(k + 2)|^2: 6 in 0, the least in 3 and 4 is 2 - 1.41.. + 2 - 1.41..
        double root2 = 1.4142135623730951;
        double most = 4 + root2 * 2;
        double least = 4 + root2 * -2;
        isDouble("clear, two sources", x.clear(2), (most - least) / (most + least));
        x.dirt(2, 255);
        isDouble("clear, all dark", x.clear(2), 0.0);
        x.put(2, false);
        isDouble("clear, out", x.clear(2), 1.0);
        for (int bad : new int[] {-2, 3, LOW, HIGH}) {
            fails("clear, part " + bad, x, NO_INDEX, () -> x.clear(bad));
        }
        Diffractory y = new Diffractory();
        y.source(0, 0, 2);
        y.source(0, 0, 1);
        y.part(2, 0);
        y.part(2, 0);
        y.put(1, false);
        isDouble("clear, even light", y.clear(1), 0.0);
        Diffractory z = new Diffractory();
        z.source(0, 0, 1);
        z.part(2, 0);
        z.part(7, 0);
        z.dirt(0, 254);
        z.expose(1, 1);
        z.dirt(0, 0);
        isDouble("clear, the least in place 0: 64 and 81", z.clear(1), 17.0 / 145.0);
        z.dirt(0, 253);
        z.expose(1, 1);
        z.expose(1, 1);
        z.dirt(0, 0);
        isDouble("clear, the least in place 1: 49 and 81", z.clear(1), 32.0 / 130.0);
    }

    private static void promise17() {
        isDouble("tenths, empty", new Diffractory().tenths(NONE, 0), 0.0);
        Diffractory x = twoSlits(3);
        double[] due = {10, 9, 5, 1, 0, 1, 5, 9};
        for (int place = 0; place < 8; place++) {
            isDouble("tenths, place " + place, x.tenths(2, place), due[place]);
        }
        Diffractory y = new Diffractory();
        y.source(0, 0, 2);
        y.source(1, 0, 1);
        isDouble("tenths, 2.5 to the even 2", y.tenths(NONE, 1), 2.0);
        y.source(0, 0, 4);
        isDouble("tenths, 0.5 to the even 0", y.tenths(NONE, 1), 0.0);
        y.move(1, 1, 0, 3);
        isDouble("tenths, 4.5 to the even 4", y.tenths(NONE, 1), 4.0);
        isDouble("tenths, the greatest", y.tenths(NONE, 0), 10.0);
        isDouble("tenths, dark", y.tenths(NONE, 7), 0.0);
        Diffractory z = new Diffractory();
        z.source(0, 0, 2);
        z.source(4, 0, 1);
        z.source(4, 0, 1);
        z.part(2, 0);
        z.part(0, 3);
        z.part(2, 0);
        is("tenths: 12 of 16", z.whole(2, 2), 12);
        isDouble("tenths, 7.5 to the even 8", z.tenths(2, 2), 8.0);
        z.dirt(2, 255);
        isDouble("tenths, all dark", z.tenths(2, 2), 0.0);
        for (int bad : new int[] {-2, 3, LOW, HIGH}) {
            fails("tenths, part " + bad, z, NO_INDEX, () -> z.tenths(bad, 0));
        }
        for (int bad : new int[] {-1, 8, LOW, HIGH}) {
            fails("tenths, place " + bad, z, NO_INDEX, () -> z.tenths(0, bad));
        }
    }

    private static void promise18() {
        Diffractory x = twoSlits(3);
        is("loses, far", x.loses(0), 0);
        is("loses, mask", x.loses(1), 6);
        is("loses, far behind it", x.loses(2), 0);
        x.dirt(0, 128);
        is("loses, dirty", x.loses(0), 1);
        x.put(1, false);
        is("loses, out", x.loses(1), 0);
        x.part(3, 0);
        is("loses, back", x.loses(3), 0);

        Diffractory y = new Diffractory();
        y.source(0, 0, 3);
        y.source(3, 1, 1);
        y.part(6, 3);
        y.dirt(0, 1);
        is("loses, film by its number times itself", y.loses(0), 81);
        y.part(7, 0);
        is("loses, plate not exposed", y.loses(1), 0);
        y.expose(1, 9);
        is("loses, plate exposed by 1: 81 9 - 64 9", y.loses(1), 153);
        y.put(0, false);
        y.put(1, false);
        int[] polar = {0, 10, 20, 20};
        y.part(10, 0);
        for (int number = 0; number < 4; number++) {
            y.set(2, number);
            is("loses, polar " + number, y.loses(2), polar[number]);
        }
        y.set(2, 2);
        for (int kind : new int[] {1, 4, 5, 8, 9}) {
            int part = y.part(kind, 0);
            is("loses, kind " + kind, y.loses(part), 0);
        }
        y.dirt(3, 8);
        is("loses, X and Y where it is dirty", y.loses(3), 2);
        for (int bad : new int[] {-1, -2, 8, LOW, HIGH}) {
            fails("loses, part " + bad, y, NO_INDEX, () -> y.loses(bad));
        }
    }

    private static void promise19() {
        Diffractory x = mixed();
        int[][] due = {{0, 254, 1, 0, 0, 0}, {7, 0, 1, 0, 0, 0}, {4, 3, 1, 0, 0, 0}, {10, 2, 1, 0, 0, 0}};
        for (int part = 0; part < 4; part++) {
            for (int what = 0; what < 6; what++) {
                is("ofPart(" + part + ", " + what + ")", x.ofPart(part, what), due[part][what]);
            }
        }
        x.put(2, false);
        x.dirt(2, 200);
        x.expose(1, 9);
        x.expose(1, 100);
        is("ofPart, out", x.ofPart(2, 2), 0);
        is("ofPart, dirty", x.ofPart(2, 3), 200);
        is("ofPart, exposures 1 + 4 + 9", x.ofPart(1, 4), 14);
        is("ofPart, exposed", x.ofPart(1, 5), 2);
        is("ofPart, exposures of another kind", x.ofPart(0, 4), 0);
        for (int bad : new int[] {-1, 6, LOW, HIGH}) {
            fails("ofPart, what " + bad, x, BAD, () -> x.ofPart(0, bad));
            fails("ofPart, part 4 and what " + bad, x, NO_INDEX, () -> x.ofPart(4, bad));
        }
        for (int bad : new int[] {-1, 4, 8, LOW, HIGH}) {
            fails("ofPart, part " + bad, x, NO_INDEX, () -> x.ofPart(bad, 0));
        }
    }

    private static void promise20() {
        Diffractory x = mixed();
        is("exposure, at first", x.exposure(1, 7), 0);
        x.expose(1, 9);
        int[] due = {0, 1, 0, 0, 4, 0, 0, 9};
        for (int place = 0; place < 8; place++) {
            is("exposure(1, " + place + ")", x.exposure(1, place), due[place]);
            is("exposure, another kind", x.exposure(0, place), 0);
        }
        x.put(1, false);
        is("exposure, out", x.exposure(1, 4), 4);
        for (int bad : new int[] {-1, 8, LOW, HIGH}) {
            fails("exposure, place " + bad, x, NO_INDEX, () -> x.exposure(1, bad));
            fails("exposure, part " + bad, x, NO_INDEX, () -> x.exposure(bad, 0));
        }
        fails("exposure, part 4", x, NO_INDEX, () -> x.exposure(4, 0));
    }

    private static void promise21() {
        Diffractory x = mixed();
        int[][] due = {{1, 2, 3}, {4, 5, 6}, {7, 7, 9}};
        for (int source = 0; source < 3; source++) {
            for (int what = 0; what < 3; what++) {
                is("ofSource(" + source + ", " + what + ")", x.ofSource(source, what), due[source][what]);
            }
        }
        for (int bad : new int[] {-1, 3, LOW, HIGH}) {
            fails("ofSource, what " + bad, x, BAD, () -> x.ofSource(0, bad));
            fails("ofSource, source " + bad, x, NO_INDEX, () -> x.ofSource(bad, 0));
            fails("ofSource, both " + bad, x, NO_INDEX, () -> x.ofSource(bad, bad));
        }
    }

    private static void promise22() {
        Diffractory x = new Diffractory();
        x.source(0, 0, 3);
        for (int kind : new int[] {1, 2, 4, 5, 6, 8, 9}) {
            x.part(kind, kind == 6 ? 1 : 0);
        }
        is("many, sources", x.many(0), 1);
        is("many, parts", x.many(1), 7);
        is("many, in", x.many(2), 7);
        is("many, all can be undone", x.many(3), NONE);
        x.dirt(6, 1);
        is("many, a dirty one", x.many(3), 6);
        x.dirt(4, 128);
        is("many, the first dirty one", x.many(3), 4);
        x.put(4, false);
        is("many, in", x.many(2), 6);
        is("many, one that is out", x.many(3), 6);
        x.part(7, 0);
        x.dirt(6, 0);
        is("many, a plate", x.many(3), NONE);
        x.put(1, false);
        is("many, exposed ever", x.many(4), 0);
        x.expose(7, 9);
        is("many, a plate of 1", x.many(3), NONE);
        is("many, exposed ever", x.many(4), 1);
        x.expose(7, 1);
        is("many, a plate of 9", x.many(3), 7);
        x.put(7, false);
        is("many, a plate of 9 that is out", x.many(3), NONE);
        is("many, exposed ever, though out", x.many(4), 2);

        Diffractory y = new Diffractory();
        y.part(0, 255);
        y.part(10, 3);
        y.part(0, 254);
        is("many, a polar", y.many(3), 1);
        y.put(1, false);
        is("many, a mask", y.many(3), 2);
        y.set(2, 255);
        is("many, masks of 255", y.many(3), NONE);
        y.set(0, 0);
        is("many, a mask of 0", y.many(3), 0);
        for (int place = 0; place < 8; place++) {
            Diffractory z = new Diffractory();
            z.source(place, 0, 3);
            z.expose(z.part(7, 0), 1);
            is("many, a plate of 9 in place " + place, z.many(3), 0);
        }
        for (int bad : new int[] {-1, 5, LOW, HIGH}) {
            fails("many(" + bad + ")", y, BAD, () -> y.many(bad));
        }
    }

    private static void promise23() {
        Diffractory x = twoSlits(3);
        x.source(5, 3, 2);
        is("without the mask, place 0", x.without(1, 0), 64);
        is("without the mask, place 3", x.without(1, 3), 4 * 64);
        is("without the mask, place 1", x.without(1, 1), 0);
        is("without the last, place 0", x.without(2, 0), 5);
        is("without the last, place 2", x.without(2, 2), 0);
        is("without: nothing changed", x.many(2), 3);
        x.put(1, false);
        is("without one that is out: in", x.without(1, 1), 2 + 4 * 2);
        is("without: it is out still", x.ofPart(1, 2), 0);
        x.dirt(1, 3);
        is("without one that is out: dirty", x.without(1, 0), 0);
        for (int bad : new int[] {-1, 3, 8, LOW, HIGH}) {
            fails("without, part " + bad, x, NO_INDEX, () -> x.without(bad, 0));
        }
        for (int bad : new int[] {-1, 8, LOW, HIGH}) {
            fails("without, place " + bad, x, NO_INDEX, () -> x.without(0, bad));
        }
    }

    private static void promise24() {
        Diffractory x = twoSlits(3);
        x.part(4, 5);
        int[] roll = {0, 1, 2, 3, 4, 5, 6, 7};
        for (int place = 0; place < 8; place++) {
            is("best roll, place " + place, x.best(3, place), roll[place]);
        }
        is("best: nothing changed", x.ofPart(3, 1), 5);
        x.dirt(2, 1);
        is("best roll, from 7 by 2 before from 1 by 0", x.best(3, 1), 0);
        is("best roll, from 7 by 1 before from 1 by 7", x.best(3, 0), 1);
        x.dirt(2, 255 - 8);
        is("best roll, by ROOT below 0 too", x.best(3, 1), 6);
        x.put(3, false);
        is("best roll, out", x.best(3, 1), 0);
        is("best, far", x.best(0, 1), NONE);
        is("best, mask", x.best(1, 1), NONE);

        Diffractory y = new Diffractory();
        y.source(2, 1, 1);
        y.part(10, 2);
        y.part(8, 1);
        y.part(10, 2);
        y.part(6, 2);
        for (int kind : new int[] {1, 3, 5, 7}) {
            is("best, kind " + kind, y.best(y.part(kind, 0), 2), NONE);
        }
        y.put(5, false);
        y.put(6, false);
        is("best film", y.best(3, 2), 3);
        is("best film in the dark", y.best(3, 4), 1);
        y.put(3, false);
        is("best film, out", y.best(3, 2), 1);
        is("best retard", y.best(1, 2), 0);
        is("best polar: both are as bright as can be", y.best(0, 2), 2);
        is("best polar behind it", y.best(2, 2), 2);
        y.set(1, 4);
        is("best polar behind X and -X", y.best(2, 2), 3);
        y.set(2, 3);
        is("best retard ahead of a polar of 3", y.best(1, 2), 4);
        y.put(0, false);
        is("best retard without Y", y.best(1, 2), 0);
        is("best polar, out", y.best(0, 2), 0);
        is("best polar, of 2 and 3 the smaller", y.best(2, 2), 2);
        y.set(2, 0);
        is("best: swap", y.best(2, 7), 0);
        for (int bad : new int[] {-1, 8, LOW, HIGH}) {
            fails("best, part " + bad, y, NO_INDEX, () -> y.best(bad, 0));
            fails("best, place " + bad, y, NO_INDEX, () -> y.best(0, bad));
            fails("best, place " + bad + " of another kind", y, NO_INDEX, () -> y.best(4, bad));
        }
        Diffractory z = new Diffractory();
        is("best, swap", z.best(z.part(9, 0), 0), NONE);
    }

    private static void promise25() {
        Diffractory x = twoSlits(3);
        x.source(2, 0, 9);
        x.source(5, 0, 1);
        is("alone(0)", x.alone(0), 0);
        is("alone(1)", x.alone(1), 6);
        is("alone(2)", x.alone(2), 3);
        is("alone: together", x.brightest(2), 6);
        x.dirt(2, 8);
        is("alone(2), of 2 and 4 the smaller", x.alone(2), 2);
        x.put(2, false);
        is("alone, behind the mask", x.alone(2), 0);
        x.put(0, false);
        is("alone, dark", x.alone(2), 0);
        x.put(1, false);
        is("alone, all out", x.alone(2), 5);
        for (int bad : new int[] {-1, 3, LOW, HIGH}) {
            fails("alone(" + bad + ")", x, NO_INDEX, () -> x.alone(bad));
        }
    }

    private static long digestByHand(Diffractory x) {
        long d = 9507;
        for (int what = 0; what < 5; what++) {
            d = d * 31 + x.many(what);
        }
        for (int source = 0; source < x.many(0); source++) {
            for (int what = 0; what < 3; what++) {
                d = d * 31 + x.ofSource(source, what);
            }
            d = d * 31 + x.alone(source);
        }
        for (int part = NONE; part < x.many(1); part++) {
            for (int place = 0; place < 8; place++) {
                d = d * 31 + x.whole(part, place);
                d = d * 31 + x.root(part, place);
            }
            d = d * 31 + x.brightest(part);
            d = d * 31 + x.dark(part);
            d = d * 31 + x.period(part);
        }
        for (int part = 0; part < x.many(1); part++) {
            for (int what = 0; what < 6; what++) {
                d = d * 31 + x.ofPart(part, what);
            }
            d = d * 31 + x.loses(part);
            d = d * 31 + x.without(part, 3);
            d = d * 31 + x.best(part, 3);
        }
        return d;
    }

    private static void promise26() {
        Diffractory x = new Diffractory();
        is("digest, empty", x.digest(), digestByHand(x));
        is("digest, empty, as the shared test has it", x.digest(), -5377871487814150780L);
        Diffractory y = mixed();
        y.expose(1, 9);
        y.put(2, false);
        y.dirt(3, 2);
        long before = y.digest();
        is("digest, mixed", before, digestByHand(y));
        is("digest, again", y.digest(), before);
        Diffractory z = twoSlits(3);
        z.source(3, 3, 7);
        z.part(8, 2);
        z.part(6, 1);
        is("digest, slits", z.digest(), digestByHand(z));
    }
}
