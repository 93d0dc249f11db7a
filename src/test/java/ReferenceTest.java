import java.util.ArrayList;
import java.util.List;
import java.util.Random;

/**
 * Long runs of calls, right and wrong ones, whose every answer is compared with that of a second model,
 * which is written another way: amplitudes as sums of W^0 to W^7, each PLACE asking what comes into it,
 * intensities as products with the conjugate, and all sums tested for overflow.
 */
public final class ReferenceTest {
    private static final int CALLS = 170;
    private static int wrong = 0;

    public static void main(String[] args) {
        for (int seed = 0; seed < 700; seed++) {
            compareOneRun(seed);
        }
        System.out.println(wrong == 0 ? "all runs agree with the reference" : wrong + " answers differ");
        if (wrong != 0) {
            System.exit(1);
        }
    }

    private static void compareOneRun(int seed) {
        Random random = new Random(seed);
        Diffractory real = new Diffractory();
        Model model = new Model();
        int few = random.nextInt(9);
        for (int call = 0; call < CALLS; call++) {
            int which = call < few + 3 ? (call < 3 ? 0 : 2) : pickCall(random);
            int[] a = pickArguments(random, which, model);
            String got = ask(real, null, which, a);
            String due = ask(null, model, which, a);
            if (!got.equals(due)) {
                wrong++;
                System.out.println("seed " + seed + " call " + call + ": method " + which + " "
                    + java.util.Arrays.toString(a) + " answered " + got + ", due is " + due);
                return;
            }
        }
        if (real.digest() != model.digest()) {
            wrong++;
            System.out.println("seed " + seed + ": the digest at the end differs");
        }
    }

    private static int pickCall(Random random) {
        // 24, the digest, is dear: it comes at the end of the run and now and then
        int which = random.nextInt(24);
        return random.nextInt(120) == 0 ? 24 : which;
    }

    private static int near(Random random, int least, int most) {
        int chance = random.nextInt(40);
        if (chance == 0) {
            return least - 1;
        }
        if (chance == 1) {
            return most + 1;
        }
        if (chance == 2 && random.nextInt(6) == 0) {
            return random.nextBoolean() ? Integer.MAX_VALUE : Integer.MIN_VALUE;
        }
        return least + random.nextInt(Math.max(1, most - least + 1));
    }

    private static int[] pickArguments(Random random, int which, Model model) {
        int parts = model.parts.size();
        int part = near(random, 0, parts - 1);
        int behind = near(random, -1, parts - 1);
        int source = near(random, 0, model.sources.size() - 1);
        int place = near(random, 0, 7);
        int phase = near(random, 0, 7);
        int strength = near(random, 1, 9);
        switch (which) {
            case 0: return new int[] {place, phase, strength};
            case 1: return new int[] {source, place, phase, strength};
            case 2: {
                int kind = near(random, 0, 10);
                return new int[] {kind, numberFor(random, kind)};
            }
            case 3: {
                int kind = part >= 0 && part < parts ? model.parts.get(part).kind : 0;
                return new int[] {part, numberFor(random, kind)};
            }
            case 4: return new int[] {part, random.nextInt(2)};
            case 5: return new int[] {part, random.nextInt(3) > 0 ? 0 : near(random, 0, 255)};
            case 6: {
                for (int i = 0; i < parts && random.nextInt(3) > 0; i++) {
                    if (model.parts.get(i).kind == 7) {
                        part = i;
                    }
                }
                return new int[] {part, near(random, 1, 100)};
            }
            case 7: return new int[] {behind, source, place, near(random, 0, 7)};
            case 8: case 9: case 15: return new int[] {behind, place};
            case 10: return new int[] {behind, random.nextInt(2)};
            case 11: case 12: case 13: case 14: return new int[] {behind};
            case 16: return new int[] {part};
            case 17: return new int[] {part, near(random, 0, 5)};
            case 18: case 21: case 22: return new int[] {part, place};
            case 19: return new int[] {source, near(random, 0, 2)};
            case 20: return new int[] {near(random, 0, 4)};
            case 23: return new int[] {source};
            default: return new int[] {};
        }
    }

    private static int numberFor(Random random, int kind) {
        int[] range = Model.range(kind);
        return range == null ? random.nextInt(4) : near(random, range[0], range[1]);
    }

    private static String ask(Diffractory x, Model m, int which, int[] a) {
        try {
            switch (which) {
                case 0: return "" + (m == null ? x.source(a[0], a[1], a[2]) : m.source(a[0], a[1], a[2]));
                case 1: return "" + (m == null ? x.move(a[0], a[1], a[2], a[3]) : m.move(a[0], a[1], a[2], a[3]));
                case 2: return "" + (m == null ? x.part(a[0], a[1]) : m.part(a[0], a[1]));
                case 3: return "" + (m == null ? x.set(a[0], a[1]) : m.set(a[0], a[1]));
                case 4: return "" + (m == null ? x.put(a[0], a[1] == 1) : m.put(a[0], a[1] == 1));
                case 5: return "" + (m == null ? x.dirt(a[0], a[1]) : m.dirt(a[0], a[1]));
                case 6: return "" + (m == null ? x.expose(a[0], a[1]) : m.expose(a[0], a[1]));
                case 7: return "" + (m == null ? x.amplitude(a[0], a[1], a[2], a[3])
                    : m.amplitude(a[0], a[1], a[2], a[3]));
                case 8: return "" + (m == null ? x.whole(a[0], a[1]) : m.intensity(a[0], a[1])[0]);
                case 9: return "" + (m == null ? x.root(a[0], a[1]) : m.intensity(a[0], a[1])[1]);
                case 10: return "" + (m == null ? x.power(a[0], a[1] == 1) : m.power(a[0], a[1]));
                case 11: return "" + (m == null ? x.brightest(a[0]) : m.brightest(a[0]));
                case 12: return "" + (m == null ? x.dark(a[0]) : m.dark(a[0]));
                case 13: return "" + (m == null ? x.period(a[0]) : m.period(a[0]));
                case 14: return "" + (m == null ? x.clear(a[0]) : m.clear(a[0]));
                case 15: return "" + (m == null ? x.tenths(a[0], a[1]) : m.tenths(a[0], a[1]));
                case 16: return "" + (m == null ? x.loses(a[0]) : m.loses(a[0]));
                case 17: return "" + (m == null ? x.ofPart(a[0], a[1]) : m.ofPart(a[0], a[1]));
                case 18: return "" + (m == null ? x.exposure(a[0], a[1]) : m.exposure(a[0], a[1]));
                case 19: return "" + (m == null ? x.ofSource(a[0], a[1]) : m.ofSource(a[0], a[1]));
                case 20: return "" + (m == null ? x.many(a[0]) : m.many(a[0]));
                case 21: return "" + (m == null ? x.without(a[0], a[1]) : m.without(a[0], a[1]));
                case 22: return "" + (m == null ? x.best(a[0], a[1]) : m.best(a[0], a[1]));
                case 23: return "" + (m == null ? x.alone(a[0]) : m.alone(a[0]));
                default: return "" + (m == null ? x.digest() : m.digest());
            }
        } catch (IndexOutOfBoundsException | IllegalArgumentException | IllegalStateException e) {
            return e.getClass().getName();
        }
    }

    private static final class ModelPart {
        int kind;
        int number;
        boolean out;
        int dirty;
        int[] exposure = new int[8];
        int exposed;
    }

    /** The document again, in another way. */
    private static final class Model {
        final List<int[]> sources = new ArrayList<>();
        final List<ModelPart> parts = new ArrayList<>();

        static int[] range(int kind) {
            int[][] ranges = {{0, 255}, {0, 16777215}, {0, 0}, {0, 0}, {0, 7}, {0, 0}, {1, 3}, {0, 0}, {0, 7}, {0, 0},
                {0, 3}};
            return kind < 0 || kind > 10 ? null : ranges[kind];
        }

        void needIndex(int i, int least, int count) {
            if (i < least || i >= count) {
                throw new IndexOutOfBoundsException();
            }
        }

        void needRange(int i, int least, int most) {
            if (i < least || i > most) {
                throw new IllegalArgumentException();
            }
        }

        int source(int place, int phase, int strength) {
            needRange(place, 0, 7);
            needRange(phase, 0, 7);
            needRange(strength, 1, 9);
            if (sources.size() == 3) {
                throw new IllegalStateException();
            }
            sources.add(new int[] {place, phase, strength});
            return sources.size() - 1;
        }

        int move(int source, int place, int phase, int strength) {
            needIndex(source, 0, sources.size());
            needRange(place, 0, 7);
            needRange(phase, 0, 7);
            needRange(strength, 1, 9);
            return sources.set(source, new int[] {place, phase, strength})[2];
        }

        int part(int kind, int number) {
            needRange(kind, 0, 10);
            needRange(number, range(kind)[0], range(kind)[1]);
            if (parts.size() == 8) {
                throw new IllegalStateException();
            }
            ModelPart made = new ModelPart();
            made.kind = kind;
            made.number = number;
            parts.add(made);
            return parts.size() - 1;
        }

        int set(int part, int number) {
            needIndex(part, 0, parts.size());
            ModelPart p = parts.get(part);
            needRange(number, range(p.kind)[0], range(p.kind)[1]);
            int before = p.number;
            p.number = number;
            return before;
        }

        boolean put(int part, boolean isIn) {
            needIndex(part, 0, parts.size());
            boolean before = !parts.get(part).out;
            parts.get(part).out = !isIn;
            return before;
        }

        int dirt(int part, int places) {
            needIndex(part, 0, parts.size());
            needRange(places, 0, 255);
            int before = parts.get(part).dirty;
            parts.get(part).dirty = places;
            return before;
        }

        int expose(int part, int divisor) {
            needIndex(part, 0, parts.size());
            needRange(divisor, 1, 100);
            ModelPart p = parts.get(part);
            if (p.kind != 7 || p.out) {
                throw new IllegalStateException();
            }
            int sum = 0;
            for (int k = 0; k < 8; k++) {
                long more = Math.floorDiv(intensity(part - 1, k)[0], (long) divisor);
                p.exposure[k] = (int) Math.min(9L, Math.addExact(p.exposure[k], more));
                sum += p.exposure[k];
            }
            p.exposed++;
            return sum;
        }

        /** [PLACE][0 X, 1 Y][how many W^0 to W^7]. */
        long[][][] light(int source, int behind) {
            long[][][] light = new long[8][2][8];
            int[] s = sources.get(source);
            light[s[0]][0][s[1]] = s[2];
            for (int i = 0; i <= behind; i++) {
                if (!parts.get(i).out) {
                    light = behindOne(parts.get(i), light);
                }
            }
            return light;
        }

        long[][][] behindOne(ModelPart p, long[][][] in) {
            long[][][] out = new long[8][2][];
            for (int k = 0; k < 8; k++) {
                for (int axis = 0; axis < 2; axis++) {
                    boolean isDirty = (p.dirty & (1 << k)) != 0;
                    out[k][axis] = isDirty ? new long[8] : into(p, in, k, axis);
                }
            }
            return out;
        }

        long[] into(ModelPart p, long[][][] in, int k, int axis) {
            long[] mine = in[k][axis];
            long[] other = in[k][1 - axis];
            switch (p.kind) {
                case 0: return times(mine, (p.number & (1 << k)) != 0 ? 1 : 0);
                case 1: return turned(mine, octalDigit(p.number, k));
                case 2: case 3: {
                    long[] sum = new long[8];
                    for (int j = 0; j < 8; j++) {
                        sum = plus(sum, turned(in[j][axis], p.kind == 2 ? j * k : -j * k));
                    }
                    return sum;
                }
                case 4: return in[Math.floorMod(k - p.number, 8)][axis];
                case 5: return in[7 - k][axis];
                case 6: return times(mine, p.number);
                case 7: return times(mine, 9 - p.exposure[k]);
                case 8: return axis == 1 ? turned(mine, p.number) : mine;
                case 9: return other;
                default:
                    switch (p.number) {
                        case 0: return times(mine, axis == 0 ? 1 : 0);
                        case 1: return times(mine, axis == 1 ? 1 : 0);
                        case 2: return plus(mine, other);
                        default: return plus(mine, times(other, -1));
                    }
            }
        }

        int octalDigit(int number, int place) {
            String digits = Integer.toOctalString(number);
            int at = digits.length() - 1 - place;
            return at < 0 ? 0 : digits.charAt(at) - '0';
        }

        long[] plus(long[] a, long[] b) {
            long[] sum = new long[8];
            for (int i = 0; i < 8; i++) {
                sum[i] = Math.addExact(a[i], b[i]);
            }
            return sum;
        }

        long[] times(long[] a, long factor) {
            long[] product = new long[8];
            for (int i = 0; i < 8; i++) {
                product[i] = Math.multiplyExact(a[i], factor);
            }
            return product;
        }

        long[] turned(long[] a, int turn) {
            long[] product = new long[8];
            for (int i = 0; i < 8; i++) {
                product[Math.floorMod(i + turn, 8)] = a[i];
            }
            return product;
        }

        /** a to d, with W^4 being -1. */
        long[] reduced(long[] a) {
            long[] four = new long[4];
            for (int i = 0; i < 4; i++) {
                four[i] = Math.subtractExact(a[i], a[i + 4]);
            }
            return four;
        }

        long amplitude(int part, int source, int place, int what) {
            needIndex(part, -1, parts.size());
            needIndex(source, 0, sources.size());
            needIndex(place, 0, 8);
            needRange(what, 0, 7);
            return reduced(light(source, part)[place][what / 4])[what % 4];
        }

        /** WHOLE and ROOT of an amplitude times its conjugate; the root of 2 is W + W^-1. */
        long[] intensityOf(long[] amplitude) {
            long[] four = reduced(amplitude);
            long[] product = new long[8];
            for (int i = 0; i < 4; i++) {
                for (int j = 0; j < 4; j++) {
                    int power = Math.floorMod(i - j, 8);
                    product[power] = Math.addExact(product[power], Math.multiplyExact(four[i], four[j]));
                }
            }
            long[] result = reduced(product);
            if (result[2] != 0 || result[3] != -result[1]) {
                throw new AssertionError("an intensity that is not real");
            }
            return new long[] {result[0], result[1]};
        }

        long[] intensityOfOne(int source, int behind, int place) {
            long[][] there = light(source, behind)[place];
            long[] x = intensityOf(there[0]);
            long[] y = intensityOf(there[1]);
            return new long[] {Math.addExact(x[0], y[0]), Math.addExact(x[1], y[1])};
        }

        long[] intensity(int part, int place) {
            needIndex(part, -1, parts.size());
            needIndex(place, 0, 8);
            long[] sum = new long[2];
            for (int s = 0; s < sources.size(); s++) {
                long[] one = intensityOfOne(s, part, place);
                sum[0] = Math.addExact(sum[0], one[0]);
                sum[1] = Math.addExact(sum[1], one[1]);
            }
            return sum;
        }

        double value(long[] intensity) {
            return intensity[0] + 1.4142135623730951 * intensity[1];
        }

        double[] values(int part) {
            needIndex(part, -1, parts.size());
            double[] values = new double[8];
            for (int k = 0; k < 8; k++) {
                values[k] = value(intensity(part, k));
            }
            return values;
        }

        long power(int part, int which) {
            needIndex(part, -1, parts.size());
            long sum = 0;
            for (int k = 0; k < 8; k++) {
                sum = Math.addExact(sum, intensity(part, k)[which]);
            }
            return sum;
        }

        int firstGreatest(double[] values) {
            int found = values.length - 1;
            for (int k = values.length - 2; k >= 0; k--) {
                found = values[k] >= values[found] ? k : found;
            }
            return found;
        }

        int brightest(int part) {
            return firstGreatest(values(part));
        }

        int dark(int part) {
            needIndex(part, -1, parts.size());
            int set = 0;
            for (int k = 7; k >= 0; k--) {
                long[] there = intensity(part, k);
                set = 2 * set + (there[0] == 0 && there[1] == 0 ? 1 : 0);
            }
            return set;
        }

        int period(int part) {
            needIndex(part, -1, parts.size());
            List<String> row = new ArrayList<>();
            for (int k = 0; k < 8; k++) {
                row.add(java.util.Arrays.toString(intensity(part, k)));
            }
            List<String> rolled = new ArrayList<>(row);
            for (int n = 1; ; n++) {
                rolled.add(0, rolled.remove(7));
                if (rolled.equals(row)) {
                    return n;
                }
            }
        }

        double clear(int part) {
            double[] values = values(part);
            java.util.Arrays.sort(values);
            double most = Math.max(0.0, values[7]);
            double least = Math.max(0.0, values[0]);
            return most + least > 0.0 ? (most - least) / (most + least) : 0.0;
        }

        double tenths(int part, int place) {
            needIndex(part, -1, parts.size());
            needIndex(place, 0, 8);
            double[] values = values(part);
            double greatest = values[firstGreatest(values)];
            return greatest > 0.0 ? Math.rint(10.0 * values[place] / greatest) : 0.0;
        }

        long loses(int part) {
            needIndex(part, 0, parts.size());
            ModelPart p = parts.get(part);
            if (p.out) {
                return 0;
            }
            long[] factors = {1, 1, 8, 8, 1, 1, (long) p.number * p.number, 81, 1, 1, p.number > 1 ? 4 : 1};
            return Math.subtractExact(Math.multiplyExact(factors[p.kind], power(part - 1, 0)), power(part, 0));
        }

        int ofPart(int part, int what) {
            needIndex(part, 0, parts.size());
            needRange(what, 0, 5);
            ModelPart p = parts.get(part);
            int sum = java.util.stream.IntStream.of(p.exposure).sum();
            return new int[] {p.kind, p.number, p.out ? 0 : 1, p.dirty, sum, p.exposed}[what];
        }

        int exposure(int part, int place) {
            needIndex(part, 0, parts.size());
            needIndex(place, 0, 8);
            return parts.get(part).exposure[place];
        }

        int ofSource(int source, int what) {
            needIndex(source, 0, sources.size());
            needRange(what, 0, 2);
            return sources.get(source)[what];
        }

        int many(int what) {
            needRange(what, 0, 4);
            int in = 0;
            int ever = 0;
            int stuck = -1;
            for (int i = parts.size() - 1; i >= 0; i--) {
                ModelPart p = parts.get(i);
                in += p.out ? 0 : 1;
                ever += p.exposed;
                boolean isFull = java.util.stream.IntStream.of(p.exposure).anyMatch(e -> e == 9);
                boolean isStuck = p.kind == 0 && p.number != 255 || p.kind == 7 && isFull || p.kind == 10 || p.dirty > 0;
                stuck = !p.out && isStuck ? i : stuck;
            }
            return new int[] {sources.size(), parts.size(), in, stuck, ever}[what];
        }

        long without(int part, int place) {
            needIndex(part, 0, parts.size());
            needIndex(place, 0, 8);
            parts.get(part).out ^= true;
            long answer = intensity(parts.size() - 1, place)[0];
            parts.get(part).out ^= true;
            return answer;
        }

        int best(int part, int place) {
            needIndex(part, 0, parts.size());
            needIndex(place, 0, 8);
            ModelPart p = parts.get(part);
            if (p.kind != 4 && p.kind != 6 && p.kind != 8 && p.kind != 10) {
                return -1;
            }
            int[] range = range(p.kind);
            int before = p.number;
            double[] values = new double[range[1] - range[0] + 1];
            for (int n = range[0]; n <= range[1]; n++) {
                p.number = n;
                values[n - range[0]] = value(intensity(parts.size() - 1, place));
            }
            p.number = before;
            return range[0] + firstGreatest(values);
        }

        int alone(int source) {
            needIndex(source, 0, sources.size());
            double[] values = new double[8];
            for (int k = 0; k < 8; k++) {
                values[k] = value(intensityOfOne(source, parts.size() - 1, k));
            }
            return firstGreatest(values);
        }

        long digest() {
            List<Long> all = new ArrayList<>();
            for (int what = 0; what < 5; what++) {
                all.add((long) many(what));
            }
            for (int s = 0; s < sources.size(); s++) {
                for (int what = 0; what < 3; what++) {
                    all.add((long) ofSource(s, what));
                }
                all.add((long) alone(s));
            }
            for (int p = -1; p < parts.size(); p++) {
                for (int k = 0; k < 8; k++) {
                    all.add(intensity(p, k)[0]);
                    all.add(intensity(p, k)[1]);
                }
                all.add((long) brightest(p));
                all.add((long) dark(p));
                all.add((long) period(p));
            }
            for (int p = 0; p < parts.size(); p++) {
                for (int what = 0; what < 6; what++) {
                    all.add((long) ofPart(p, what));
                }
                all.add(loses(p));
                all.add(without(p, 3));
                all.add((long) best(p, 3));
            }
            long d = 9507;
            for (long v : all) {
                d = d * 31 + v;
            }
            return d;
        }
    }
}
