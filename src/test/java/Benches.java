/** Benches to test on, each made anew; none takes more than some hundred calls. */
final class Benches {
    static final int NONE = -1;

    static final int MASK = 0;
    static final int PHASES = 1;
    static final int FAR = 2;
    static final int BACK = 3;
    static final int ROLL = 4;
    static final int FLIP = 5;
    static final int FILM = 6;
    static final int PLATE = 7;
    static final int RETARD = 8;
    static final int SWAP = 9;
    static final int POLAR = 10;
    static final int KINDS = 11;

    static final int[] LEAST_NUMBER = {0, 0, 0, 0, 0, 0, 1, 0, 0, 0, 0};
    static final int[] MOST_NUMBER = {255, 16777215, 0, 0, 7, 0, 3, 0, 7, 0, 3};

    /** By 81 / DIVISOR[n], rounded down, one SOURCE of strength 9 EXPOSES by n. */
    private static final int[] DIVISOR = {100, 81, 40, 27, 20, 16, 13, 11, 10, 9};

    private Benches() {
    }

    static Diffractory empty() {
        return new Diffractory();
    }

    static Diffractory withSource(int place, int phase, int strength) {
        Diffractory x = new Diffractory();
        x.source(place, phase, strength);
        return x;
    }

    /** Each with another PLACE, phase and strength: 5, 1, 2, then 6, 2, 3, then 7, 3, 4. */
    static Diffractory withSources(int count) {
        Diffractory x = new Diffractory();
        for (int source = 0; source < count; source++) {
            x.source(5 + source, 1 + source, 2 + source);
        }
        return x;
    }

    /** PLATES alone, so that each call on a PART can do its work. */
    static Diffractory withParts(int count) {
        Diffractory x = withSource(2, 3, 4);
        for (int part = 0; part < count; part++) {
            x.part(PLATE, 0);
        }
        return x;
    }

    static Diffractory withKind(int kind, int number) {
        Diffractory x = withSource(2, 3, 4);
        x.part(kind, number);
        return x;
    }

    /** 3 SOURCES, 8 PARTS, the PART 5 is OUT, the PARTS 1 and 6 are DIRTY, the PLATE 2 is EXPOSED. */
    static Diffractory full() {
        Diffractory x = withSources(3);
        int[] kinds = {FAR, MASK, PLATE, BACK, ROLL, FILM, RETARD, POLAR};
        int[] numbers = {0, 239, 0, 0, 3, 2, 5, 3};
        for (int i = 0; i < kinds.length; i++) {
            x.part(kinds[i], numbers[i]);
        }
        x.expose(2, 7);
        x.dirt(1, 1);
        x.put(5, false);
        x.dirt(6, 128);
        return x;
    }

    /** One SOURCE, FAR, a set of slits, FAR: behind it is the sum of W^(j k) over all slits j, in each PLACE k. */
    static Diffractory slits(int places) {
        Diffractory x = withSource(0, 0, 1);
        x.part(FAR, 0);
        x.part(MASK, places);
        x.part(FAR, 0);
        return x;
    }

    /** Behind the PART 2 X is a + b W + c W^2 + d W^3 in the PLACE 1, of 0 to 9 each; all else is dark. */
    static Diffractory withAmplitude(int a, int b, int c, int d) {
        Diffractory x = withSource(0, 0, 9);
        x.part(FAR, 0);
        x.part(PLATE, 0);
        x.part(FAR, 0);
        weigh(x, 1, a, b, c, d, 0, 0, 0, 0);
        x.dirt(2, 253);
        x.move(0, 0, 0, 1);
        return x;
    }

    /** EXPOSES a new PLATE so that it multiplies by that in each PLACE; there is one SOURCE, and it is moved. */
    static void weigh(Diffractory x, int plate, int... factors) {
        for (int part = 0; part < plate; part++) {
            x.put(part, false);
        }
        for (int place = 0; place < factors.length; place++) {
            if (factors[place] < 9) {
                x.move(0, place, 0, 9);
                x.expose(plate, DIVISOR[9 - factors[place]]);
            }
        }
        for (int part = 0; part < plate; part++) {
            x.put(part, true);
        }
    }

    /**
     * Behind the PART 7 the INTENSITY in one PLACE (0 or 4) is WHOLE 1536796802 and ROOT -1086679440, times the
     * strength times itself. That is a little above 0, but its VALUE is 0.0, and below 0 with a strength of 9.
     *
     * There X is 2 Re (A B), with A = 81 - 81 W + 81 W^2 + 10 W^3 and B = -8 + 9 W + 81 W^2 - 81 W^3,
     * and this is -27720 + 19601 times the root of 2.
     */
    static Diffractory nearlyDark(int place, int strength) {
        Diffractory x = withSource(0, 0, 9);
        for (int kind : new int[] {FAR, PLATE, PLATE, FAR, FAR, PLATE, PLATE, FAR}) {
            x.part(kind, 0);
        }
        weigh(x, 1, 9, 9, 9, 2, 9, 9, 9, 9);
        weigh(x, 2, 9, 9, 9, 5, 9, 9, 9, 9);
        weigh(x, 5, 9, 9, 9, 9, 8, 9, 9, 9);
        weigh(x, 6, 9, 1, 9, 9, 1, 1, 9, 9);
        x.dirt(0, 255 - places(0, 2, 3, 5));
        x.dirt(3, 255 - places(1, 7));
        x.dirt(4, 255 - (place == 0 ? places(1, 2, 4, 7) : places(2, 3, 4, 5)));
        x.move(0, 0, 0, strength);
        return x;
    }

    /** The set of these PLACES. */
    static int places(int... places) {
        int set = 0;
        for (int place : places) {
            set += 1 << place;
        }
        return set;
    }

    /** All that one can tell of a bench, by at most 250 calls. */
    static String stateOf(Diffractory x) {
        StringBuilder text = new StringBuilder().append(x.digest());
        for (int what = 0; what < 5; what++) {
            text.append(' ').append(x.many(what));
        }
        int sources = x.many(0);
        for (int source = 0; source < sources; source++) {
            for (int what = 0; what < 3; what++) {
                text.append(' ').append(x.ofSource(source, what));
            }
        }
        int parts = x.many(1);
        for (int part = 0; part < parts; part++) {
            for (int what = 0; what < 6; what++) {
                text.append(' ').append(x.ofPart(part, what));
            }
            for (int place = 0; place < 8; place++) {
                text.append(' ').append(x.exposure(part, place));
            }
        }
        return text.toString();
    }
}
