import java.util.Arrays;

/** A bench of waves of light, with all phases in eighths of a turn, told exactly. */
public final class Diffractory {
    private static final int NONE = -1;
    private static final int PLACES = 8;
    private static final int ALL_PLACES = 255;
    private static final int MOST_SOURCES = 3;
    private static final int MOST_PARTS = 8;
    private static final int MOST_STRENGTH = 9;
    private static final int MOST_EXPOSURE = 9;
    private static final int MOST_DIVISOR = 100;

    private static final int MASK = 0;
    private static final int PHASES = 1;
    private static final int FAR = 2;
    private static final int BACK = 3;
    private static final int ROLL = 4;
    private static final int FLIP = 5;
    private static final int FILM = 6;
    private static final int PLATE = 7;
    private static final int RETARD = 8;
    private static final int SWAP = 9;
    private static final int POLAR = 10;

    /** The least and the greatest NUMBER, by KIND. */
    private static final int[] LEAST_NUMBER = {0, 0, 0, 0, 0, 0, 1, 0, 0, 0, 0};
    private static final int[] MOST_NUMBER = {255, 16777215, 0, 0, 7, 0, 3, 0, 7, 0, 3};

    private static final long DIGEST_START = 9507;
    private static final int DIGEST_PLACE = 3;

    private final Source[] sources = new Source[MOST_SOURCES];
    private final Part[] parts = new Part[MOST_PARTS];
    private int sourceCount;
    private int partCount;

    /** Work rows, made once and filled anew by each call that needs them. */
    private final Light light = new Light();
    private final Row row = new Row();

    public Diffractory() {
        sourceCount = 0;
        partCount = 0;
    }

    // ---- what is told

    public int source(int place, int phase, int strength) throws IllegalArgumentException, IllegalStateException {
        checkSource(place, phase, strength);
        if (sourceCount < 0 || sourceCount >= MOST_SOURCES) {
            throw new IllegalStateException("no room for another source");
        }
        sources[sourceCount] = new Source(place, phase, strength);
        sourceCount++;
        return sourceCount - 1;
    }

    public int move(int source, int place, int phase, int strength)
            throws IndexOutOfBoundsException, IllegalArgumentException {
        Source moved = sourceAt(source);
        if (moved == null) {
            throw new IndexOutOfBoundsException("no such source");
        }
        checkSource(place, phase, strength);
        int before = moved.strength;
        moved.place = place;
        moved.phase = phase;
        moved.strength = strength;
        return before;
    }

    public int part(int kind, int number) throws IllegalArgumentException, IllegalStateException {
        if (!isNumberOf(kind, number)) {
            throw new IllegalArgumentException("no such kind, or number not in its range");
        }
        if (partCount < 0 || partCount >= MOST_PARTS) {
            throw new IllegalStateException("no room for another part");
        }
        parts[partCount] = new Part(kind, number);
        partCount++;
        return partCount - 1;
    }

    public int set(int part, int number) throws IndexOutOfBoundsException, IllegalArgumentException {
        Part changed = partAt(part);
        if (changed == null) {
            throw new IndexOutOfBoundsException("no such part");
        }
        if (!isNumberOf(changed.kind, number)) {
            throw new IllegalArgumentException("number not in the range of the kind");
        }
        int before = changed.number;
        changed.number = number;
        return before;
    }

    public boolean put(int part, boolean isIn) throws IndexOutOfBoundsException {
        Part changed = partAt(part);
        if (changed == null) {
            throw new IndexOutOfBoundsException("no such part");
        }
        boolean before = changed.isIn;
        changed.isIn = isIn;
        return before;
    }

    public int dirt(int part, int places) throws IndexOutOfBoundsException, IllegalArgumentException {
        Part changed = partAt(part);
        if (changed == null) {
            throw new IndexOutOfBoundsException("no such part");
        }
        if (places < 0 || places > ALL_PLACES) {
            throw new IllegalArgumentException("places is not 0 to 255");
        }
        int before = changed.dirtyPlaces;
        changed.dirtyPlaces = places;
        return before;
    }

    public int expose(int part, int divisor)
            throws IndexOutOfBoundsException, IllegalArgumentException, IllegalStateException {
        Part plate = partAt(part);
        if (plate == null) {
            throw new IndexOutOfBoundsException("no such part");
        }
        if (divisor < 1 || divisor > MOST_DIVISOR) {
            throw new IllegalArgumentException("divisor is not 1 to 100");
        }
        if (plate.kind != PLATE || !plate.isIn) {
            throw new IllegalStateException("the part is no plate, or out");
        }
        shineAll(part - 1);
        plate.darken(row, divisor);
        return plate.sumOfExposures();
    }

    // ---- what one asks

    public long amplitude(int part, int source, int place, int what)
            throws IndexOutOfBoundsException, IllegalArgumentException {
        checkBehind(part);
        Source shining = sourceAt(source);
        if (shining == null || !isPlace(place)) {
            throw new IndexOutOfBoundsException("no such source, or place");
        }
        if (what < 0 || what > 7) {
            throw new IllegalArgumentException("what is not 0 to 7");
        }
        shineOne(shining, part);
        return light.coefficient(place, what);
    }

    public long whole(int part, int place) throws IndexOutOfBoundsException {
        checkBehind(part);
        checkPlace(place);
        shineAll(part);
        return row.wholes[place];
    }

    public long root(int part, int place) throws IndexOutOfBoundsException {
        checkBehind(part);
        checkPlace(place);
        shineAll(part);
        return row.roots[place];
    }

    public long power(int part, boolean isRoot) throws IndexOutOfBoundsException {
        checkBehind(part);
        shineAll(part);
        return isRoot ? row.sumOfRoots() : row.sumOfWholes();
    }

    public int brightest(int part) throws IndexOutOfBoundsException {
        checkBehind(part);
        shineAll(part);
        return row.placeOfGreatest();
    }

    public int dark(int part) throws IndexOutOfBoundsException {
        checkBehind(part);
        shineAll(part);
        return row.darkPlaces();
    }

    public int period(int part) throws IndexOutOfBoundsException {
        checkBehind(part);
        shineAll(part);
        return row.shortestRoll();
    }

    public double clear(int part) throws IndexOutOfBoundsException {
        checkBehind(part);
        shineAll(part);
        return row.contrast();
    }

    public double tenths(int part, int place) throws IndexOutOfBoundsException {
        checkBehind(part);
        checkPlace(place);
        shineAll(part);
        return row.inTenths(place);
    }

    public long loses(int part) throws IndexOutOfBoundsException {
        Part asked = partAt(part);
        if (asked == null) {
            throw new IndexOutOfBoundsException("no such part");
        }
        if (!asked.isIn) {
            return 0;
        }
        shineAll(part - 1);
        long ahead = row.sumOfWholes();
        shineAll(part);
        return asked.lossFactor() * ahead - row.sumOfWholes();
    }

    public int ofPart(int part, int what) throws IndexOutOfBoundsException, IllegalArgumentException {
        Part asked = partAt(part);
        if (asked == null) {
            throw new IndexOutOfBoundsException("no such part");
        }
        switch (what) {
            case 0: return asked.kind;
            case 1: return asked.number;
            case 2: return asked.isIn ? 1 : 0;
            case 3: return asked.dirtyPlaces;
            case 4: return asked.sumOfExposures();
            case 5: return asked.timesExposed;
            default: throw new IllegalArgumentException("what is not 0 to 5");
        }
    }

    public int exposure(int part, int place) throws IndexOutOfBoundsException {
        Part asked = partAt(part);
        if (asked == null) {
            throw new IndexOutOfBoundsException("no such part");
        }
        checkPlace(place);
        return asked.exposures[place];
    }

    public int ofSource(int source, int what) throws IndexOutOfBoundsException, IllegalArgumentException {
        Source asked = sourceAt(source);
        if (asked == null) {
            throw new IndexOutOfBoundsException("no such source");
        }
        switch (what) {
            case 0: return asked.place;
            case 1: return asked.phase;
            case 2: return asked.strength;
            default: throw new IllegalArgumentException("what is not 0 to 2");
        }
    }

    public int many(int what) throws IllegalArgumentException {
        switch (what) {
            case 0: return sourceCount;
            case 1: return partCount;
            case 2: return countPartsIn();
            case 3: return firstThatCannotBeUndone();
            case 4: return countExposuresEver();
            default: throw new IllegalArgumentException("what is not 0 to 4");
        }
    }

    // ---- what would be

    public long without(int part, int place) throws IndexOutOfBoundsException {
        Part changed = partAt(part);
        if (changed == null) {
            throw new IndexOutOfBoundsException("no such part");
        }
        checkPlace(place);
        boolean before = changed.isIn;
        changed.isIn = !before;
        shineAll(partCount - 1);
        changed.isIn = before;
        return row.wholes[place];
    }

    public int best(int part, int place) throws IndexOutOfBoundsException {
        Part changed = partAt(part);
        if (changed == null) {
            throw new IndexOutOfBoundsException("no such part");
        }
        checkPlace(place);
        if (!changed.canBeTuned()) {
            return NONE;
        }
        int before = changed.number;
        int best = NONE;
        double greatest = 0.0;
        int last = mostNumber(changed.kind);
        for (int number = leastNumber(changed.kind); number <= last; number++) {
            changed.number = number;
            shineAll(partCount - 1);
            double value = row.valueAt(place);
            if (best == NONE || value > greatest) {
                best = number;
                greatest = value;
            }
        }
        changed.number = before;
        return best;
    }

    public int alone(int source) throws IndexOutOfBoundsException {
        Source shining = sourceAt(source);
        if (shining == null) {
            throw new IndexOutOfBoundsException("no such source");
        }
        shineOne(shining, partCount - 1);
        row.wipe();
        row.add(light);
        return row.placeOfGreatest();
    }

    public long digest() {
        long d = DIGEST_START;
        for (int what = 0; what <= 4; what++) {
            d = d * 31 + many(what);
        }
        for (int source = 0; source < sourceCount; source++) {
            for (int what = 0; what <= 2; what++) {
                d = d * 31 + ofSource(source, what);
            }
            d = d * 31 + alone(source);
        }
        for (int part = NONE; part < partCount; part++) {
            shineAll(part);
            d = row.addToDigest(d);
        }
        for (int part = 0; part < partCount; part++) {
            for (int what = 0; what <= 5; what++) {
                d = d * 31 + ofPart(part, what);
            }
            d = d * 31 + loses(part);
            d = d * 31 + without(part, DIGEST_PLACE);
            d = d * 31 + best(part, DIGEST_PLACE);
        }
        return d;
    }

    // ---- what arguments may be

    private static boolean isPlace(int place) {
        return place >= 0 && place < PLACES;
    }

    private static boolean isNumberOf(int kind, int number) {
        return kind >= MASK && kind <= POLAR && number >= leastNumber(kind) && number <= mostNumber(kind);
    }

    private static int leastNumber(int kind) {
        return kind >= 0 && kind < LEAST_NUMBER.length ? LEAST_NUMBER[kind] : 0;
    }

    private static int mostNumber(int kind) {
        return kind >= 0 && kind < MOST_NUMBER.length ? MOST_NUMBER[kind] : 0;
    }

    private static void checkPlace(int place) {
        if (!isPlace(place)) {
            throw new IndexOutOfBoundsException("no such place");
        }
    }

    private static void checkSource(int place, int phase, int strength) {
        if (!isPlace(place) || phase < 0 || phase > 7 || strength < 1 || strength > MOST_STRENGTH) {
            throw new IllegalArgumentException("place or phase is not 0 to 7, or strength not 1 to 9");
        }
    }

    private void checkBehind(int part) {
        if (part < NONE || part >= partCount) {
            throw new IndexOutOfBoundsException("no such part");
        }
    }

    /** The SOURCE of that number, or null. */
    private Source sourceAt(int source) {
        return source >= 0 && source < sourceCount && source < MOST_SOURCES ? sources[source] : null;
    }

    /** The PART of that number, or null. */
    private Part partAt(int part) {
        return part >= 0 && part < partCount && part < MOST_PARTS ? parts[part] : null;
    }

    // ---- how the bench stands

    private int countPartsIn() {
        int count = 0;
        for (int i = 0; i < partCount; i++) {
            Part part = partAt(i);
            if (part != null && part.isIn) {
                count++;
            }
        }
        return count;
    }

    private int firstThatCannotBeUndone() {
        for (int i = 0; i < partCount; i++) {
            Part part = partAt(i);
            if (part != null && part.isIn && !part.canBeUndone()) {
                return i;
            }
        }
        return NONE;
    }

    private int countExposuresEver() {
        int count = 0;
        for (int i = 0; i < partCount; i++) {
            Part part = partAt(i);
            if (part != null) {
                count += part.timesExposed;
            }
        }
        return count;
    }

    /** Fills light with that of one SOURCE behind a PART (NONE: ahead of all). */
    private void shineOne(Source source, int behind) {
        light.start(source);
        for (int i = 0; i <= behind && i < partCount; i++) {
            Part part = partAt(i);
            if (part != null && part.isIn) {
                part.pass(light);
            }
        }
    }

    /** Fills row with the INTENSITIES of all SOURCES together behind a PART (NONE: ahead of all). */
    private void shineAll(int behind) {
        row.wipe();
        for (int i = 0; i < sourceCount; i++) {
            Source source = sourceAt(i);
            if (source != null) {
                shineOne(source, behind);
                row.add(light);
            }
        }
    }

    private static final class Source {
        int place;
        int phase;
        int strength;

        Source(int place, int phase, int strength) {
            this.place = place;
            this.phase = phase;
            this.strength = strength;
        }
    }

    private static final class Part {
        final int kind;
        int number;
        boolean isIn = true;
        int dirtyPlaces = 0;
        int timesExposed = 0;
        /** Stays 0 in all PLACES, if this is no PLATE. */
        final int[] exposures = new int[PLACES];

        Part(int kind, int number) {
            this.kind = kind;
            this.number = number;
        }

        void darken(Row ahead, int divisor) {
            if (divisor < 1) {
                return;
            }
            for (int k = 0; k < PLACES; k++) {
                long exposure = exposures[k] + ahead.wholes[k] / divisor;
                exposures[k] = (int) Math.min(MOST_EXPOSURE, exposure);
            }
            timesExposed++;
        }

        int sumOfExposures() {
            int sum = 0;
            for (int k = 0; k < PLACES; k++) {
                sum += exposures[k];
            }
            return sum;
        }

        boolean canBeUndone() {
            if (dirtyPlaces != 0 || kind == POLAR) {
                return false;
            }
            if (kind == MASK) {
                return number == ALL_PLACES;
            }
            for (int k = 0; k < PLACES; k++) {
                if (exposures[k] == MOST_EXPOSURE) {
                    return false;
                }
            }
            return true;
        }

        boolean canBeTuned() {
            return kind == ROLL || kind == FILM || kind == RETARD || kind == POLAR;
        }

        /** By how much POWER grows, if nothing is lost. */
        long lossFactor() {
            switch (kind) {
                case FAR:
                case BACK: return PLACES;
                case FILM: return number * number;
                case PLATE: return MOST_EXPOSURE * MOST_EXPOSURE;
                case POLAR: return number >= 2 ? 4 : 1;
                default: return 1;
            }
        }

        /** Turns the light ahead of this PART into that behind it. */
        void pass(Light light) {
            for (int k = 0; k < PLACES; k++) {
                switch (kind) {
                    case MASK: light.carry(k, k, 0, (number >> k) & 1); break;
                    case PHASES: light.carry(k, k, (number >> (3 * k)) & 7, 1); break;
                    case FAR: light.gather(k, 1); break;
                    // W^-1 is W^7
                    case BACK: light.gather(k, 7); break;
                    case ROLL: light.carry(k, (k + number) & 7, 0, 1); break;
                    case FLIP: light.carry(k, 7 - k, 0, 1); break;
                    case FILM: light.carry(k, k, 0, number); break;
                    case PLATE: light.carry(k, k, 0, MOST_EXPOSURE - exposures[k]); break;
                    case RETARD: light.retard(k, number); break;
                    case SWAP: light.exchange(k); break;
                    default: light.polarise(k, number); break;
                }
            }
            light.settle(dirtyPlaces);
        }
    }

    /**
     * The LIGHT of one SOURCE: eight coefficients in each PLACE, a to d of X, then a to d of Y.
     * A PART adds up in the next row what it makes of the present one, then settles it.
     */
    private static final class Light {
        private static final int OF_AMPLITUDE = 4;
        private static final int OF_PLACE = 8;
        private static final int SIZE = PLACES * OF_PLACE;

        private long[] now = new long[SIZE];
        /** All 0 between two PARTS. */
        private long[] next = new long[SIZE];

        void start(Source source) {
            Arrays.fill(now, 0);
            // W^4 is -1
            boolean isTurnedOver = (source.phase & OF_AMPLITUDE) != 0;
            now[startOfX(source.place) + (source.phase & 3)] = isTurnedOver ? -source.strength : source.strength;
        }

        long coefficient(int place, int what) {
            return now[startOfX(place) + (what & 7)];
        }

        /** WHOLE of X and Y together. */
        long wholeAt(int place) {
            long whole = 0;
            for (int what = 0; what < OF_PLACE; what++) {
                long number = coefficient(place, what);
                whole += number * number;
            }
            return whole;
        }

        /** ROOT of X and Y together. */
        long rootAt(int place) {
            return rootFrom(startOfX(place)) + rootFrom(startOfY(place));
        }

        private long rootFrom(int start) {
            long a = now[start];
            long b = now[start + 1];
            long c = now[start + 2];
            long d = now[start + 3];
            return a * b + b * c + c * d - d * a;
        }

        /** Adds X and Y of one PLACE, times W^turn and a factor, to those of a PLACE in the next row. */
        void carry(int from, int to, int turn, int factor) {
            add(startOfX(from), startOfX(to), turn, factor);
            add(startOfY(from), startOfY(to), turn, factor);
        }

        /** Adds to a PLACE in the next row what is in all PLACES j, times W^(step j place). */
        void gather(int place, int step) {
            for (int j = 0; j < PLACES; j++) {
                add(startOfX(j), startOfX(place), step * j * place, 1);
                add(startOfY(j), startOfY(place), step * j * place, 1);
            }
        }

        void retard(int place, int turn) {
            add(startOfX(place), startOfX(place), 0, 1);
            add(startOfY(place), startOfY(place), turn, 1);
        }

        void exchange(int place) {
            add(startOfX(place), startOfY(place), 0, 1);
            add(startOfY(place), startOfX(place), 0, 1);
        }

        void polarise(int place, int number) {
            int x = startOfX(place);
            int y = startOfY(place);
            if (number == 0) {
                add(x, x, 0, 1);
            } else if (number == 1) {
                add(y, y, 0, 1);
            } else {
                int sign = number == 2 ? 1 : -1;
                add(x, x, 0, 1);
                add(y, x, 0, sign);
                add(y, y, 0, 1);
                add(x, y, 0, sign);
            }
        }

        /** Takes the next row for the present one, with no light in the dirty PLACES. */
        void settle(int dirtyPlaces) {
            for (int k = 0; k < PLACES; k++) {
                if (((dirtyPlaces >> k) & 1) != 0) {
                    Arrays.fill(next, startOfX(k), startOfX(k) + OF_PLACE, 0);
                }
            }
            long[] passed = now;
            now = next;
            next = passed;
            Arrays.fill(next, 0);
        }

        private void add(int from, int to, int turn, int factor) {
            for (int i = 0; i < OF_AMPLITUDE; i++) {
                int power = i + (turn & 7);
                long term = factor * now[from + i];
                // W^4 is -1, W^8 is 1 again
                boolean isTurnedOver = (power & OF_AMPLITUDE) != 0;
                next[to + (power & 3)] += isTurnedOver ? -term : term;
            }
        }

        /** The mask of 7, here and in startOfY, keeps every index inside the rows. */
        private static int startOfX(int place) {
            return OF_PLACE * (place & 7);
        }

        private static int startOfY(int place) {
            return OF_PLACE * (place & 7) + OF_AMPLITUDE;
        }
    }

    /** The INTENSITIES of all PLACES. */
    private static final class Row {
        final long[] wholes = new long[PLACES];
        final long[] roots = new long[PLACES];

        void wipe() {
            Arrays.fill(wholes, 0);
            Arrays.fill(roots, 0);
        }

        void add(Light light) {
            for (int k = 0; k < PLACES; k++) {
                wholes[k] += light.wholeAt(k);
                roots[k] += light.rootAt(k);
            }
        }

        long sumOfWholes() {
            return sum(wholes);
        }

        long sumOfRoots() {
            return sum(roots);
        }

        private static long sum(long[] numbers) {
            long sum = 0;
            for (int k = 0; k < numbers.length; k++) {
                sum += numbers[k];
            }
            return sum;
        }

        double valueAt(int place) {
            return (double) wholes[place & 7] + 1.4142135623730951 * (double) roots[place & 7];
        }

        int placeOfGreatest() {
            int found = 0;
            for (int k = 1; k < PLACES; k++) {
                if (valueAt(k) > valueAt(found)) {
                    found = k;
                }
            }
            return found;
        }

        private double greatest() {
            return valueAt(placeOfGreatest());
        }

        private double least() {
            double least = valueAt(0);
            for (int k = 1; k < PLACES; k++) {
                double value = valueAt(k);
                least = value < least ? value : least;
            }
            return least;
        }

        int darkPlaces() {
            int places = 0;
            for (int k = 0; k < PLACES; k++) {
                if (wholes[k] == 0 && roots[k] == 0) {
                    places |= 1 << k;
                }
            }
            return places;
        }

        int shortestRoll() {
            for (int roll = 1; roll < PLACES; roll++) {
                if (isAsItWas(roll)) {
                    return roll;
                }
            }
            return PLACES;
        }

        private boolean isAsItWas(int roll) {
            for (int k = 0; k < PLACES; k++) {
                int rolled = (k + roll) & 7;
                if (wholes[k] != wholes[rolled] || roots[k] != roots[rolled]) {
                    return false;
                }
            }
            return true;
        }

        double contrast() {
            double most = notBelowZero(greatest());
            double least = notBelowZero(least());
            double sum = most + least;
            return sum > 0.0 ? (most - least) / sum : 0.0;
        }

        double inTenths(int place) {
            double greatest = greatest();
            return greatest > 0.0 ? roundToEven(10.0 * valueAt(place) / greatest) : 0.0;
        }

        private static double notBelowZero(double value) {
            return value > 0.0 ? value : 0.0;
        }

        /** Answers as Math.rint, which the language rules leave out, -0.0 for a small negative x too. */
        private static double roundToEven(double x) {
            if (x < 0.0) {
                return -roundAboveZero(-x);
            }
            return roundAboveZero(x);
        }

        private static double roundAboveZero(double x) {
            // From 2^52 on a double has no digits behind the point, so adding it rounds them away, half to even.
            double noFractions = 4503599627370496.0;
            return x < noFractions ? (x + noFractions) - noFractions : x;
        }

        long addToDigest(long start) {
            long d = start;
            for (int k = 0; k < PLACES; k++) {
                d = d * 31 + wholes[k];
                d = d * 31 + roots[k];
            }
            d = d * 31 + placeOfGreatest();
            d = d * 31 + darkPlaces();
            return d * 31 + shortestRoll();
        }
    }
}
