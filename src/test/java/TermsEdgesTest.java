/** Each sentence of the document's Terms that names a boundary case, with a test of its own. */
public final class TermsEdgesTest {
    private static final int NONE = Benches.NONE;
    private static final Sentences doc = new Sentences();

    private interface Ask {
        double of(Diffractory x, int part);
    }

    public static void main(String[] args) {
        doc.under("What it is");
        manyCalls();
        doc.under("Terms");
        none();
        places();
        turns();
        intensities();
        values();
        sources();
        parts();
        alikeForXAndY();
        masksAndPhases();
        farAndBack();
        rollsAndFlips();
        filmsAndPlates();
        retardsAndPolars();
        dirt();
        exposing();
        countedExposing();
        power();
        losses();
        changesNothing();
        toldChangesNothing();
        firstNamed();
        behindOneThatIsOut();
        wouldBe();
        doc.end();
    }

    private static void manyCalls() {
        doc.says("An object is used for at most 512 calls after it has been made");
        Diffractory x = new Diffractory();
        x.source(0, 0, 9);
        x.part(Benches.PLATE, 0);
        for (int call = 3; call <= 511; call++) {
            x.expose(0, 100);
        }
        doc.is("the 512th call", x.ofPart(0, 5), 509);
    }

    private static void none() {
        doc.says("NONE is -1.");
        Diffractory x = Benches.withParts(1);
        doc.is("whole(-1, 2)", x.whole(-1, 2), 16);
        doc.is("whole(0, 2)", x.whole(0, 2), 16 * 81);
        doc.is("many(3)", x.many(3), -1);
        doc.is("best(0, 2)", x.best(0, 2), -1);
    }

    private static void places() {
        doc.says("There are 8 PLACES in a row, numbered from 0.");
        for (int place = 0; place < 8; place++) {
            Diffractory x = Benches.withSource(place, 0, 3);
            for (int other = 0; other < 8; other++) {
                doc.is("whole(NONE, " + other + ")", x.whole(NONE, other), other == place ? 9 : 0);
            }
        }
    }

    /** What W^turn times 1 + 2 W + 3 W^2 + 4 W^3 is. */
    private static final long[][] TURNED = {
        {1, 2, 3, 4}, {-4, 1, 2, 3}, {-3, -4, 1, 2}, {-2, -3, -4, 1},
        {-1, -2, -3, -4}, {4, -1, -2, -3}, {3, 4, -1, -2}, {2, 3, 4, -1}
    };

    private static void isAmplitude(String name, Diffractory x, int part, int place, boolean isY, long... due) {
        for (int i = 0; i < 4; i++) {
            int what = isY ? 4 + i : i;
            doc.is(name + ": amplitude(" + part + ", 0, " + place + ", " + what + ")",
                x.amplitude(part, 0, place, what), due[i]);
        }
    }

    private static void turns() {
        Diffractory x = Benches.withAmplitude(1, 2, 3, 4);
        doc.says("so W times that is -d + a W + b W^2 + c W^3");
        isAmplitude("before", x, 2, 1, false, 1, 2, 3, 4);
        x.part(Benches.PHASES, 010);
        isAmplitude("once", x, 3, 1, false, -4, 1, 2, 3);

        doc.says("W times itself, four times together, is -1.");
        for (int part = 4; part < 7; part++) {
            x.part(Benches.PHASES, 010);
        }
        isAmplitude("four times", x, 6, 1, false, -1, -2, -3, -4);
        x.part(Benches.PHASES, 040);
        isAmplitude("eight times", x, 7, 1, false, 1, 2, 3, 4);

        doc.says("W^p is W multiplied p times, for p of 0 or more (W^0 is 1)");
        Diffractory y = Benches.withAmplitude(1, 2, 3, 4);
        y.part(Benches.PHASES, 0);
        for (int turn = 0; turn < 8; turn++) {
            y.set(3, turn * 8);
            isAmplitude("W^" + turn, y, 3, 1, false, TURNED[turn]);
        }
        doc.says("W^-p is W^(7 p)");
        for (int j = 0; j < 8; j++) {
            Diffractory z = Benches.withSource(j, 0, 1);
            z.part(Benches.BACK, 0);
            for (int k = 0; k < 8; k++) {
                isAmplitude("back from " + j, z, 0, k, false, turnedOne(7 * j * k, 1));
            }
        }
    }

    /** a to d of W^turn, times a factor. */
    private static long[] turnedOne(int turn, int factor) {
        long[] amplitude = new long[4];
        amplitude[turn % 4] = turn % 8 < 4 ? factor : -factor;
        return amplitude;
    }

    private static final int[][] AMPLITUDES = {{1, 2, 3, 4}, {5, 0, 0, 2}, {0, 0, 3, 7}, {9, 9, 9, 9}, {0, 6, 5, 0},
        {3, 4, 0, 0}, {0, 0, 0, 0}, {0, 0, 0, 1}};
    private static final int[] WHOLES = {30, 29, 58, 324, 61, 25, 0, 1};
    private static final int[] ROOTS = {16, -10, 21, 162, 30, 12, 0, 0};

    private static void intensities() {
        doc.says("its WHOLE is a a + b b + c c + d d, its ROOT is a b + b c + c d - d a");
        for (int i = 0; i < AMPLITUDES.length; i++) {
            int[] a = AMPLITUDES[i];
            Diffractory x = Benches.withAmplitude(a[0], a[1], a[2], a[3]);
            x.part(Benches.SWAP, 0);
            for (int part = 2; part <= 3; part++) {
                doc.is("whole of the amplitude " + i, x.whole(part, 1), WHOLES[i]);
                doc.is("root of the amplitude " + i, x.root(part, 1), ROOTS[i]);
            }
        }
        doc.says("That of a PLACE is X's and Y's together, and all SOURCES' together.");
        Diffractory x = Benches.withAmplitude(1, 2, 3, 4);
        x.part(Benches.POLAR, 2);
        doc.is("X and Y alike, WHOLE", x.whole(3, 1), 60);
        doc.is("X and Y alike, ROOT", x.root(3, 1), 32);
        x.source(0, 4, 2);
        x.source(0, 0, 3);
        doc.is("three sources, WHOLE", x.whole(3, 1), 60 * (1 + 4 + 9));
        doc.is("three sources, ROOT", x.root(3, 1), 32 * (1 + 4 + 9));
    }

    private static void values() {
        doc.says("Its VALUE is the double WHOLE + 1.4142135623730951 * ROOT (both made double first; reckoned as Java does).");
        Diffractory x = Benches.slits(3);
        x.source(2, 0, 1);
        double most = 4 + 1.4142135623730951 * 2;
        double least = 4 + 1.4142135623730951 * -2;
        doc.isDouble("clear", x.clear(2), (most - least) / (most + least));
        Diffractory y = Benches.nearlyDark(0, 9);
        doc.is("below 0: whole", y.whole(7, 0), 81 * 1536796802L);
        doc.is("below 0: root", y.root(7, 0), 81 * -1086679440L);
        doc.isDouble("below 0: tenths", y.tenths(7, 0), -0.0);

        doc.says("One INTENSITY is GREATER than another one, if its VALUE is.");
        y.dirt(7, 254);
        doc.is("a VALUE below 0, brightest", y.brightest(7), 1);
        doc.is("a VALUE below 0, alone", y.alone(0), 1);
        Diffractory z = Benches.nearlyDark(4, 8);
        z.dirt(7, 255 - 16);
        doc.is("another INTENSITY of VALUE 0.0, brightest", z.brightest(7), 0);
        doc.is("another INTENSITY of VALUE 0.0, alone", z.alone(0), 0);
    }

    private static void sources() {
        doc.says("ahead of all PARTS its LIGHT is s W^p for X there, 0 for Y, and 0 in all other PLACES.");
        for (int phase = 0; phase < 8; phase++) {
            for (int place = 0; place < 8; place += 7) {
                int strength = place == 0 ? 1 : 9;
                Diffractory x = Benches.withSource(place, phase, strength);
                for (int k = 0; k < 8; k++) {
                    isAmplitude("X", x, NONE, k, false, k == place ? turnedOne(phase, strength) : new long[4]);
                    isAmplitude("Y", x, NONE, k, true, new long[4]);
                }
            }
        }
        doc.says("Each SOURCE's LIGHT goes by itself (they do not know of each other).");
        Diffractory x = Benches.withSource(3, 0, 2);
        x.source(3, 4, 2);
        doc.is("they do not put each other out", x.whole(NONE, 3), 8);
        doc.is("the first one's", x.amplitude(NONE, 0, 3, 0), 2);
        doc.is("the second one's", x.amplitude(NONE, 1, 3, 0), -2);

        doc.says("SOURCES: at most 3, numbered from 0, each with a PLACE, a PHASE p (0 to 7) and a STRENGTH s (1 to 9)");
        for (int count = 0; count < 3; count++) {
            doc.is("source, the next one", Benches.withSources(count).source(7, 7, 9), count);
        }
        doc.is("all three shine", Benches.withSources(3).power(NONE, false), 4 + 9 + 16);
        doc.refuses("a fourth", Sentences.STATE, () -> Benches.withSources(3), b -> b.source(0, 0, 1));
    }

    private static void parts() {
        doc.says("PARTS: at most 8, numbered from 0, that stand in this order");
        for (int count = 0; count < 8; count++) {
            doc.is("part, the next one", Benches.withParts(count).part(Benches.FAR, 0), count);
        }
        doc.is("all eight act", Benches.withParts(8).whole(7, 2), 16 * (long) Math.pow(81, 8));
        doc.refuses("a ninth", Sentences.STATE, () -> Benches.withParts(8), b -> b.part(Benches.FAR, 0));
        Diffractory x = Benches.withKind(Benches.ROLL, 2);
        x.part(Benches.FLIP, 0);
        doc.is("a roll, then a flip", x.brightest(1), 3);
        Diffractory y = Benches.withKind(Benches.FLIP, 0);
        y.part(Benches.ROLL, 2);
        doc.is("a flip, then a roll", y.brightest(1), 7);

        doc.says("is IN (at first) or OUT (as if it was not there). LIGHT goes through those that are IN.");
        for (int kind = 0; kind < Benches.KINDS; kind++) {
            Diffractory z = Benches.withKind(kind, Benches.LEAST_NUMBER[kind]);
            doc.is("in at first, kind " + kind, z.ofPart(0, 2), 1);
            z.part(Benches.ROLL, 1);
            z.dirt(0, 255);
            z.put(0, false);
            isAmplitude("out, kind " + kind, z, 0, 2, false, 0, 0, 0, 4);
            isAmplitude("the next one, kind " + kind, z, 1, 3, false, 0, 0, 0, 4);
        }
    }

    /** Even light: strength 4 W^3 in each PLACE, then the PART 1 of that KIND. */
    private static Diffractory even(int kind, int number) {
        Diffractory x = Benches.withSource(0, 3, 4);
        x.part(Benches.FAR, 0);
        x.part(kind, number);
        return x;
    }

    private static void alikeForXAndY() {
        doc.says("By KIND (k are PLACES, for X and for Y alike where nothing else is said)");
        int[] kinds = {0, 0, 1, 2, 3, 4, 5, 6, 7};
        int[] numbers = {4, 251, 0500, 0, 0, 6, 0, 3, 0};
        for (int i = 0; i < kinds.length; i++) {
            Diffractory x = Benches.withSource(2, 1, 2);
            x.part(Benches.SWAP, 0);
            x.part(kinds[i], numbers[i]);
            x.part(Benches.SWAP, 0);
            for (int k = 0; k < 8; k++) {
                for (int what = 0; what < 4; what++) {
                    doc.is("Y of kind " + kinds[i], x.amplitude(1, 0, k, 4 + what), behindX(x, kinds[i], numbers[i], k, what));
                    doc.is("X of kind " + kinds[i] + ", dark ahead", x.amplitude(1, 0, k, what), 0);
                    doc.is("exchanged", x.amplitude(2, 0, k, what), x.amplitude(1, 0, k, 4 + what));
                }
            }
        }
    }

    private static long behindX(Diffractory y, int kind, int number, int k, int what) {
        Diffractory x = Benches.withSource(y.ofSource(0, 0), y.ofSource(0, 1), y.ofSource(0, 2));
        x.part(kind, number);
        return x.amplitude(0, 0, k, what);
    }

    private static void masksAndPhases() {
        doc.says("0 MASK: NUMBER is a set of PLACES (0 to 255, the sum of 2^k): in all others LIGHT is 0.");
        doc.is("the empty set", even(Benches.MASK, 0).dark(1), 255);
        doc.is("the full set", even(Benches.MASK, 255).dark(1), 0);
        for (int place = 0; place < 8; place++) {
            int set = 1 << place;
            doc.is("one place", even(Benches.MASK, set).dark(1), 255 - set);
            doc.is("all but one", even(Benches.MASK, 255 - set).dark(1), set);
            doc.is("light as it was", even(Benches.MASK, set).whole(1, place), 16);
        }
        doc.says("1 PHASES: NUMBER (0 to 16777215) in octal digits, the lowest one is of the PLACE 0, and so on: with a digit p LIGHT is multiplied by W^p.");
        for (int place = 0; place < 8; place++) {
            isAmplitude("no digits", even(Benches.PHASES, 0), 1, place, false, turnedOne(3, 4));
            isAmplitude("all digits 7", even(Benches.PHASES, 16777215), 1, place, false, turnedOne(10, 4));
            isAmplitude("all digits", even(Benches.PHASES, 076543210), 1, place, false, turnedOne(3 + place, 4));
            isAmplitude("all others", even(Benches.PHASES, 16777215 - (7 << (3 * place))), 1, place, false, turnedOne(3, 4));
        }
    }

    private static void farAndBack() {
        doc.says("2 FAR (NUMBER 0): in the PLACE k is the sum over all PLACES j of what was in j times W^(j k).");
        for (int j = 0; j < 8; j++) {
            Diffractory x = Benches.withSource(j, 2, 5);
            x.part(Benches.FAR, 0);
            for (int k = 0; k < 8; k++) {
                isAmplitude("far from " + j, x, 0, k, false, turnedOne(2 + j * k, 5));
            }
        }
        isAmplitude("a sum of all", Benches.slits(255), 2, 0, false, 8, 0, 0, 0);
        isAmplitude("a sum of all", Benches.slits(255), 2, 7, false, 0, 0, 0, 0);
        doc.says("3 BACK (0): that with W^-(j k).");
        for (int j = 0; j < 8; j++) {
            Diffractory x = Benches.withSource(j, 2, 5);
            x.part(Benches.BACK, 0);
            x.part(Benches.FAR, 0);
            for (int k = 0; k < 8; k++) {
                isAmplitude("back from " + j, x, 0, k, false, turnedOne(2 + 64 - j * k, 5));
                isAmplitude("back and far", x, 1, k, false, k == j ? turnedOne(2, 40) : new long[4]);
            }
        }
    }

    private static void rollsAndFlips() {
        doc.says("4 ROLL (0 to 7): what was in k is in the PLACE k plus NUMBER, modulo 8.");
        int[] rolled = {7, 0, 1, 2, 3, 4, 5, 6};
        for (int number = 0; number < 8; number++) {
            Diffractory x = Benches.withSource(7, 0, 1);
            x.part(Benches.ROLL, number);
            doc.is("from 7 by " + number, x.dark(0), 255 - (1 << rolled[number]));
            isAmplitude("from 7 by " + number, x, 0, rolled[number], false, 1, 0, 0, 0);
            x.move(0, 0, 0, 1);
            doc.is("from 0 by " + number, x.dark(0), 255 - (1 << number));
        }
        doc.says("5 FLIP (0): what was in k is in 7 less k.");
        for (int place = 0; place < 8; place++) {
            Diffractory x = Benches.withSource(place, 0, 1);
            x.part(Benches.FLIP, 0);
            doc.is("flip of " + place, x.dark(0), 255 - (128 >> place));
            isAmplitude("flip of " + place, x, 0, 7 - place, false, 1, 0, 0, 0);
        }
    }

    private static void filmsAndPlates() {
        doc.says("6 FILM (1 to 3): LIGHT is multiplied by NUMBER.");
        for (int number = 1; number <= 3; number++) {
            isAmplitude("film", even(Benches.FILM, number), 1, 7, false, turnedOne(3, 4 * number));
        }
        doc.says("7 PLATE (0): it has an EXPOSURE for each PLACE (0 at first; 9 at most): LIGHT is multiplied by 9 less that.");
        Diffractory x = even(Benches.PLATE, 0);
        isAmplitude("not exposed", x, 1, 0, false, turnedOne(3, 36));
        Benches.weigh(x, 1, 0, 1, 2, 3, 5, 7, 8, 9);
        x.move(0, 0, 3, 4);
        int[] factors = {0, 1, 2, 3, 5, 7, 8, 9};
        for (int place = 0; place < 8; place++) {
            doc.is("exposure of " + place, x.exposure(1, place), 9 - factors[place]);
            isAmplitude("exposed", x, 1, place, false, turnedOne(3, 4 * factors[place]));
        }
    }

    /** In the PLACE 6 X is 5, Y is 5 W^2, then the PART 2 of that KIND. */
    private static Diffractory crossed(int kind, int number) {
        Diffractory x = Benches.withSource(6, 0, 5);
        x.part(Benches.POLAR, 2);
        x.part(Benches.RETARD, 2);
        x.part(kind, number);
        return x;
    }

    private static void retardsAndPolars() {
        doc.says("8 RETARD (0 to 7): Y is multiplied by W^NUMBER.");
        for (int number = 0; number < 8; number++) {
            isAmplitude("X", crossed(Benches.RETARD, number), 2, 6, false, 5, 0, 0, 0);
            isAmplitude("Y", crossed(Benches.RETARD, number), 2, 6, true, turnedOne(2 + number, 5));
        }
        doc.says("9 SWAP (0): X and Y are exchanged.");
        isAmplitude("X", crossed(Benches.SWAP, 0), 2, 6, false, 0, 0, 5, 0);
        isAmplitude("Y", crossed(Benches.SWAP, 0), 2, 6, true, 5, 0, 0, 0);
        doc.says("10 POLAR (0 to 3): 0 Y becomes 0; 1 X becomes 0; 2 X and Y both become X and Y together; 3 X becomes X less Y, Y becomes Y less X (both of what they were).");
        long[][] xs = {{5, 0, 0, 0}, {0, 0, 0, 0}, {5, 0, 5, 0}, {5, 0, -5, 0}};
        long[][] ys = {{0, 0, 0, 0}, {0, 0, 5, 0}, {5, 0, 5, 0}, {-5, 0, 5, 0}};
        for (int number = 0; number < 4; number++) {
            isAmplitude("X, polar " + number, crossed(Benches.POLAR, number), 2, 6, false, xs[number]);
            isAmplitude("Y, polar " + number, crossed(Benches.POLAR, number), 2, 6, true, ys[number]);
        }
    }

    private static void dirt() {
        doc.says("A PART can be DIRTY in PLACES: LIGHT is 0 there behind it (if it is IN).");
        for (int kind = 1; kind < Benches.KINDS; kind++) {
            int number = Benches.LEAST_NUMBER[kind];
            boolean isSpreading = kind == Benches.FAR || kind == Benches.BACK;
            Diffractory x = isSpreading ? Benches.withKind(Benches.ROLL, 0) : Benches.withKind(Benches.FAR, 0);
            x.part(kind, number);
            int darkAhead = x.dark(0);
            doc.is("clean at first", x.dark(1), 0);
            for (int set : new int[] {0, 1, 128, 254, 127, 255}) {
                x.dirt(1, set);
                doc.is("dirty, kind " + kind, x.dark(1), set);
                doc.is("ahead of it", x.dark(0), darkAhead);
                x.put(1, false);
                doc.is("dirty and out, kind " + kind, x.dark(1), darkAhead);
                x.put(1, true);
            }
        }
        Diffractory mask = even(Benches.MASK, 15);
        mask.dirt(1, 24);
        doc.is("a dirty mask", mask.dark(1), 240 + 8);
        Diffractory roll = Benches.withKind(Benches.ROLL, 1);
        roll.dirt(0, 4);
        doc.is("dirt is behind a roll, not ahead", roll.whole(0, 3), 16);
        roll.dirt(0, 8);
        doc.is("dirt is behind a roll", roll.whole(0, 3), 0);
        Diffractory y = crossed(Benches.FLIP, 0);
        y.dirt(2, 2);
        doc.is("X and Y are 0", y.power(2, false), 0);
    }

    /** The EXPOSURE by the WHOLE first squared plus second squared (0: no second SOURCE). */
    private static long exposedBy(int first, int second, int divisor) {
        Diffractory x = Benches.withSource(3, 1, first);
        if (second > 0) {
            x.source(3, 6, second);
        }
        x.part(Benches.PLATE, 0);
        x.expose(0, divisor);
        return x.exposure(0, 3);
    }

    private static void exposing() {
        doc.says("To EXPOSE a PLATE by a DIVISOR (1 to 100): for each PLACE, EXPOSURE is more by WHOLE of the INTENSITY ahead of the PLATE, divided by that, rounded down (9 at most then).");
        doc.is("1 / 1", exposedBy(1, 0, 1), 1);
        doc.is("1 / 2", exposedBy(1, 0, 2), 0);
        doc.is("9 / 10", exposedBy(3, 0, 10), 0);
        doc.is("9 / 9", exposedBy(3, 0, 9), 1);
        doc.is("98 / 99", exposedBy(7, 7, 99), 0);
        doc.is("98 / 98", exposedBy(7, 7, 98), 1);
        doc.is("98 / 100", exposedBy(7, 7, 100), 0);
        doc.is("100 / 100", exposedBy(8, 6, 100), 1);
        doc.is("80 / 9", exposedBy(8, 4, 9), 8);
        doc.is("81 / 9", exposedBy(9, 0, 9), 9);
        doc.is("81 / 8", exposedBy(9, 0, 8), 9);
        doc.is("9 / 1", exposedBy(3, 0, 1), 9);
        doc.is("10 / 1", exposedBy(3, 1, 1), 9);
        doc.is("162 / 1", exposedBy(9, 9, 1), 9);

        Diffractory x = Benches.withSource(3, 1, 8);
        x.part(Benches.PLATE, 0);
        int[] dues = {0, 1, 3, 6, 7, 9, 9};
        int[] divisors = {65, 64, 32, 21, 63, 30, 1};
        for (int i = 0; i < dues.length; i++) {
            x.expose(0, divisors[i]);
            doc.is("more and more: 64 / " + divisors[i], x.exposure(0, 3), dues[i]);
        }
        x.move(0, 4, 0, 3);
        x.expose(0, 4);
        doc.is("each place by itself", x.exposure(0, 3), 9);
        doc.is("each place by itself", x.exposure(0, 4), 2);
        doc.is("each place by itself", x.exposure(0, 5), 0);

        // ROOT is 1, 0, -1 in the places 1, 2, 3; ahead of the plate, so its own exposures do not count
        Diffractory y = Benches.slits(3);
        y.part(Benches.PLATE, 0);
        y.dirt(3, 255);
        y.expose(3, 2);
        y.expose(3, 2);
        int[] wholes = {4, 2, 2, 2, 0, 2, 2, 2};
        for (int place = 0; place < 8; place++) {
            doc.is("WHOLE alone, ahead of the plate", y.exposure(3, place), wholes[place] / 2 * 2);
        }
        // WHOLE is 2^48
        Diffractory z = Benches.withSource(0, 0, 8);
        for (int plate = 0; plate < 7; plate++) {
            z.part(Benches.PLATE, 0);
        }
        for (int plate = 6; plate >= 0; plate--) {
            Benches.weigh(z, plate, 8);
        }
        z.move(0, 0, 0, 8);
        z.part(Benches.PLATE, 0);
        doc.is("2^48", z.whole(6, 0), 1L << 48);
        z.expose(7, 1);
        doc.is("2^48 / 1", z.exposure(7, 0), 9);
    }

    private static void countedExposing() {
        doc.says("It is counted.");
        Diffractory x = new Diffractory();
        x.part(Benches.PLATE, 0);
        x.part(Benches.PLATE, 0);
        doc.is("not yet", x.ofPart(0, 5), 0);
        x.expose(0, 100);
        x.expose(0, 1);
        x.expose(1, 1);
        doc.is("though there is no light", x.ofPart(0, 5), 2);
        doc.is("each by itself", x.ofPart(1, 5), 1);
        doc.is("ever", x.many(4), 3);
        x.source(0, 0, 9);
        x.expose(0, 1);
        x.expose(0, 1);
        doc.is("though all is 9 already", x.ofPart(0, 5), 4);
        doc.refuses("expose(0, 0)", Sentences.BAD, () -> x, b -> b.expose(0, 0));
        doc.is("one that is refused is not counted", x.ofPart(0, 5), 4);
    }

    private static void power() {
        doc.says("POWER ahead of all PARTS, or behind one, is the INTENSITY of all PLACES together.");
        Diffractory x = Benches.withSource(0, 0, 2);
        x.source(7, 0, 3);
        doc.is("ahead of all", x.power(NONE, false), 13);
        x.part(Benches.POLAR, 2);
        doc.is("X and Y", x.power(0, false), 26);
        Diffractory y = Benches.slits(3);
        y.dirt(2, 255 - 2 - 128);
        doc.is("WHOLE of the places 1 and 7", y.power(2, false), 4);
        doc.is("ROOT of the places 1 and 7", y.power(2, true), 2);
        doc.is("no sources", new Diffractory().power(NONE, false), 0);
        doc.is("no sources", new Diffractory().power(NONE, true), 0);
    }

    /** What the PART 1 LOSES of even light of WHOLE 16 in each PLACE. */
    private static long lossOf(int kind, int number, int dirtyPlaces) {
        Diffractory x = even(kind, number);
        x.dirt(1, dirtyPlaces);
        return x.loses(1);
    }

    private static void losses() {
        doc.says("What a PART that is IN LOSES is, with F being 8 for FAR and BACK, NUMBER times NUMBER for FILM, 81 for PLATE, 4 for POLAR of 2 and 3, and 1 for all others: F times WHOLE of POWER ahead of it, less WHOLE of POWER behind it.");
        int[] kinds = {0, 1, 2, 3, 4, 5, 6, 6, 6, 7, 8, 9, 10, 10, 10, 10};
        int[] numbers = {255, 7, 0, 0, 7, 0, 1, 2, 3, 0, 7, 0, 0, 1, 2, 3};
        int[] factors = {1, 1, 8, 8, 1, 1, 1, 4, 9, 81, 1, 1, 1, 1, 4, 4};
        // Y is 0, so a polar of 0 loses nothing, of 1 all, of 2 and 3 a half of it
        int[] lost = {0, 0, 0, 0, 0, 0, 0, 0, 0, 0, 0, 0, 0, 128, 256, 256};
        for (int i = 0; i < kinds.length; i++) {
            String name = "kind " + kinds[i] + " of " + numbers[i];
            doc.is(name + ", clean", lossOf(kinds[i], numbers[i], 0), lost[i]);
            doc.is(name + ", dirty everywhere", lossOf(kinds[i], numbers[i], 255), factors[i] * 128);
        }
        doc.is("a mask of 0", lossOf(Benches.MASK, 0, 0), 128);
        doc.is("a mask of 254", lossOf(Benches.MASK, 254, 0), 16);
        doc.is("a dirty place", lossOf(Benches.FILM, 3, 1), 9 * 16);
        Diffractory plates = Benches.withSource(0, 0, 9);
        for (int part = 0; part < 8; part++) {
            plates.part(Benches.PLATE, 0);
        }
        plates.dirt(7, 255);
        doc.is("the most", plates.loses(7), 150094635296999121L);
        Diffractory first = Benches.withKind(Benches.MASK, 0);
        doc.is("ahead of the first is ahead of all", first.loses(0), 16);

        doc.says("One that is OUT LOSES 0.");
        for (int kind = 0; kind < Benches.KINDS; kind++) {
            Diffractory x = even(kind, Benches.LEAST_NUMBER[kind]);
            x.dirt(1, 255);
            x.put(1, false);
            doc.is("out, kind " + kind, x.loses(1), 0);
        }
    }

    private static void keepsIt(String call, Class<?> due, Sentences.Call run) {
        doc.keeps(call, due, Benches::full, run);
    }

    private static void changesNothing() {
        doc.says("A method that throws an exception changes nothing.");
        Class<?> noIndex = Sentences.NO_INDEX;
        Class<?> bad = Sentences.BAD;
        keepsIt("source of place 8", bad, x -> x.source(8, 0, 1));
        keepsIt("a fourth source", Sentences.STATE, x -> x.source(0, 0, 1));
        keepsIt("move of source 3", noIndex, x -> x.move(3, 0, 0, 1));
        keepsIt("move to place 8", bad, x -> x.move(0, 8, 7, 9));
        keepsIt("move to phase 8", bad, x -> x.move(0, 7, 8, 9));
        keepsIt("move to strength 10", bad, x -> x.move(0, 7, 7, 10));
        keepsIt("part of kind 11", bad, x -> x.part(11, 0));
        keepsIt("a ninth part", Sentences.STATE, x -> x.part(0, 0));
        keepsIt("set of part 8", noIndex, x -> x.set(8, 0));
        keepsIt("set to 256", bad, x -> x.set(1, 256));
        keepsIt("put of part 8", noIndex, x -> x.put(8, false));
        keepsIt("dirt of part 8", noIndex, x -> x.dirt(8, 3));
        keepsIt("dirt of 256", bad, x -> x.dirt(1, 256));
        keepsIt("dirt of -1", bad, x -> x.dirt(1, -1));
        keepsIt("expose of part 8", noIndex, x -> x.expose(8, 1));
        keepsIt("expose by 0", bad, x -> x.expose(2, 0));
        keepsIt("expose by 101", bad, x -> x.expose(2, 101));
        keepsIt("expose of a mask", Sentences.STATE, x -> x.expose(1, 1));
        keepsIt("amplitude of part 8", noIndex, x -> x.amplitude(8, 0, 0, 0));
        keepsIt("amplitude of what 8", bad, x -> x.amplitude(7, 0, 0, 8));
        keepsIt("whole of place 8", noIndex, x -> x.whole(7, 8));
        keepsIt("root of place 8", noIndex, x -> x.root(7, 8));
        keepsIt("power of part 8", noIndex, x -> x.power(8, true));
        keepsIt("brightest of part 8", noIndex, x -> x.brightest(8));
        keepsIt("dark of part 8", noIndex, x -> x.dark(8));
        keepsIt("period of part 8", noIndex, x -> x.period(8));
        keepsIt("clear of part 8", noIndex, x -> x.clear(8));
        keepsIt("tenths of place 8", noIndex, x -> x.tenths(7, 8));
        keepsIt("loses of part 8", noIndex, x -> x.loses(8));
        keepsIt("ofPart of what 6", bad, x -> x.ofPart(7, 6));
        keepsIt("exposure of place 8", noIndex, x -> x.exposure(7, 8));
        keepsIt("ofSource of what 3", bad, x -> x.ofSource(2, 3));
        keepsIt("many of what 5", bad, x -> x.many(5));
        keepsIt("without of place 8", noIndex, x -> x.without(7, 8));
        keepsIt("best of place 8", noIndex, x -> x.best(7, 8));
        keepsIt("alone of source 3", noIndex, x -> x.alone(3));
        Sentences.Bench out = () -> {
            Diffractory x = Benches.withParts(2);
            x.put(1, false);
            return x;
        };
        doc.keeps("expose of a plate that is out", Sentences.STATE, out, x -> x.expose(1, 1));
    }

    private static void toldChangesNothing() {
        doc.says("---- what one asks");
        keepsIt("amplitude", null, x -> x.amplitude(7, 0, 0, 0));
        keepsIt("whole", null, x -> x.whole(7, 0));
        keepsIt("root", null, x -> x.root(7, 0));
        keepsIt("power", null, x -> x.power(7, false));
        keepsIt("brightest", null, x -> x.brightest(7));
        keepsIt("dark", null, x -> x.dark(7));
        keepsIt("period", null, x -> x.period(7));
        keepsIt("clear", null, x -> x.clear(7));
        keepsIt("tenths", null, x -> x.tenths(7, 0));
        keepsIt("loses", null, x -> x.loses(7));
        keepsIt("ofPart", null, x -> x.ofPart(7, 0));
        keepsIt("exposure", null, x -> x.exposure(7, 0));
        keepsIt("ofSource", null, x -> x.ofSource(0, 0));
        keepsIt("many", null, x -> x.many(0));
    }

    private static void firstNamed() {
        doc.says("If several exceptions apply, the one that is named first is thrown.");
        Class<?> noIndex = Sentences.NO_INDEX;
        Class<?> bad = Sentences.BAD;
        Sentences.Bench full = Benches::full;
        doc.refuses("a fourth source, of place 8", bad, full, x -> x.source(8, 0, 1));
        doc.refuses("a fourth source, of phase 8", bad, full, x -> x.source(0, 8, 1));
        doc.refuses("a fourth source, of strength 0", bad, full, x -> x.source(0, 0, 0));
        doc.refuses("move of source 3 to place 8", noIndex, full, x -> x.move(3, 8, 0, 1));
        doc.refuses("move of source 3 to strength 0", noIndex, full, x -> x.move(3, 0, 0, 0));
        doc.refuses("a ninth part, of kind 11", bad, full, x -> x.part(11, 0));
        doc.refuses("a ninth part, of number 256", bad, full, x -> x.part(0, 256));
        doc.refuses("set of part 8 to -1", noIndex, full, x -> x.set(8, -1));
        doc.refuses("dirt of part 8 in 256", noIndex, full, x -> x.dirt(8, 256));
        doc.refuses("expose of part 8 by 0", noIndex, full, x -> x.expose(8, 0));
        doc.refuses("expose of a mask by 0", bad, full, x -> x.expose(1, 0));
        doc.refuses("expose of a mask by 101", bad, full, x -> x.expose(1, 101));
        doc.refuses("amplitude of part 8, what 8", noIndex, full, x -> x.amplitude(8, 0, 0, 8));
        doc.refuses("amplitude of source 3, what 8", noIndex, full, x -> x.amplitude(7, 3, 0, 8));
        doc.refuses("amplitude of place 8, what 8", noIndex, full, x -> x.amplitude(7, 0, 8, 8));
        doc.refuses("ofPart of part 8, what 6", noIndex, full, x -> x.ofPart(8, 6));
        doc.refuses("ofSource of source 3, what 3", noIndex, full, x -> x.ofSource(3, 3));
        Sentences.Bench out = () -> {
            Diffractory x = Benches.withParts(1);
            x.put(0, false);
            return x;
        };
        doc.refuses("expose of a plate that is out by 0", bad, out, x -> x.expose(0, 0));
    }

    /** The PARTS 1 and 2 OUT: what is behind them is as behind 0; with 0 OUT too, as ahead of all. */
    private static void asAhead(String name, Ask ask) {
        Diffractory x = Benches.withSource(1, 1, 2);
        x.source(3, 0, 1);
        x.part(Benches.FAR, 0);
        x.part(Benches.MASK, 12);
        x.part(Benches.FAR, 0);
        x.put(0, false);
        double first = ask.of(x, NONE);
        doc.isDouble(name + ", the first one out", ask.of(x, 0), first);
        x.put(0, true);
        double second = ask.of(x, 0);
        x.put(1, false);
        doc.isDouble(name + ", the second one out", ask.of(x, 1), second);
        x.put(2, false);
        doc.isDouble(name + ", the last one out too", ask.of(x, 2), second);
        x.put(0, false);
        doc.isDouble(name + ", all out", ask.of(x, 2), first);
        x.put(1, true);
        x.set(1, 32);
        doc.isDouble(name + ", NONE does not see any part", ask.of(x, NONE), first);
        doc.is(name + ", but behind a part it is another", ask.of(x, 2) == ask.of(x, NONE), false);
    }

    private static void behindOneThatIsOut() {
        doc.says("(behind a PART: one that is OUT, as behind the one ahead of it; NONE: ahead of all)");
        asAhead("amplitude", (x, part) -> x.amplitude(part, 0, 1, 1) + 10 * x.amplitude(part, 0, 1, 2));
        asAhead("whole", (x, part) -> x.whole(part, 1));
        asAhead("power", (x, part) -> x.power(part, false));
        asAhead("brightest", (x, part) -> x.brightest(part));
        asAhead("dark", (x, part) -> x.dark(part));
        asAhead("period", (x, part) -> x.period(part));
        asAhead("clear", (x, part) -> x.clear(part));
        asAhead("tenths", (x, part) -> x.tenths(part, 1));
        Diffractory x = Benches.slits(3);
        x.part(Benches.MASK, 0);
        doc.is("root, in", x.root(3, 1), 0);
        x.put(3, false);
        doc.is("root, out", x.root(3, 1), 1);
        doc.is("root, out", x.power(3, true), 0);
    }

    private static void wouldBe() {
        doc.says("---- what would be (nothing is changed).");
        for (int i = 0; i < 8; i++) {
            int part = i;
            keepsIt("without part " + part, null, x -> x.without(part, 3));
            keepsIt("best of part " + part, null, x -> x.best(part, 3));
        }
        for (int i = 0; i < 3; i++) {
            int source = i;
            keepsIt("alone of source " + source, null, x -> x.alone(source));
        }
        keepsIt("digest", null, x -> x.digest());
    }
}
