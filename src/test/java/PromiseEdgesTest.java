import java.math.BigInteger;

/** Promise by promise, each sentence that tells what is returned or thrown, at its edges. */
public final class PromiseEdgesTest {
    private static final int NONE = Benches.NONE;
    private static final Class<?> NO_INDEX = Sentences.NO_INDEX;
    private static final Class<?> BAD = Sentences.BAD;
    private static final Class<?> STATE = Sentences.STATE;
    private static final double ROOT_2 = 1.4142135623730951;
    private static final Sentences doc = new Sentences();

    private static final String NO_PART = "Throws `IndexOutOfBoundsException` if there is no such PART";
    private static final String NO_SOURCE = "Throws `IndexOutOfBoundsException` if there is no such SOURCE";
    private static final String NO_PART_OR_PLACE = "Throws `IndexOutOfBoundsException` if there is no such PART, or PLACE";
    private static final String NOT_BEHIND =
        "Throws `IndexOutOfBoundsException` if part is not NONE, and there is no such PART";
    private static final String NOT_BEHIND_OR_NO_PLACE =
        "Throws `IndexOutOfBoundsException` if part is not NONE, and there is no such PART, or there is no such PLACE";
    private static final String NO_SUCH_LIGHT =
        "Throws `IllegalArgumentException` if place or phase is not 0 to 7, or strength not 1 to 9";

    private interface NumberedCall {
        void on(Diffractory x, int number);
    }

    public static void main(String[] args) {
        promise1();
        promise2();
        promise3();
        promise4();
        promise5();
        promise6();
        promise7();
        promise8();
        promise9();
        promise10();
        promise11();
        promise12();
        promise13();
        promise14();
        promise15();
        promise16();
        promise17();
        promise18();
        promise19();
        promise20();
        promise21();
        promise22();
        promise23();
        promise24();
        promise25();
        promise26();
        doc.allPromisesAreTested();
        doc.end();
    }

    /** Each number of the range is taken, and what is outside is refused with that exception. */
    private static void needsRange(String name, Class<?> due, int least, int most, Sentences.Bench bench,
            NumberedCall call) {
        for (int bad : Sentences.outside(least, most)) {
            doc.refuses(name + " of " + bad, due, bench, x -> call.on(x, bad));
        }
        for (int number = least; number <= Math.min(most, least + 300); number++) {
            int good = number;
            doc.takes(name + " of " + good, bench, x -> call.on(x, good));
        }
        if (most >= least) {
            doc.takes(name + " of " + most, bench, x -> call.on(x, most));
        }
    }

    private static void needsPlace(Sentences.Bench bench, NumberedCall call) {
        needsRange("place", NO_INDEX, 0, 7, bench, call);
    }

    /** On benches of 0, 1, 3 and 8 PARTS. */
    private static void needsPart(int least, NumberedCall call) {
        for (int count : new int[] {0, 1, 3, 8}) {
            needsRange("part, with " + count, NO_INDEX, least, count - 1, () -> Benches.withParts(count), call);
        }
    }

    private static void needsSource(NumberedCall call) {
        for (int count = 0; count <= 3; count++) {
            int sources = count;
            needsRange("source, with " + count, NO_INDEX, 0, count - 1, () -> Benches.withSources(sources), call);
        }
    }

    private static Diffractory onePart() {
        return Benches.withParts(1);
    }

    private static Diffractory oneSource() {
        return Benches.withSources(1);
    }

    private static void promise1() {
        doc.under("Promise 1");
        doc.says("Creates a bench without SOURCES and PARTS.");
        for (int what = 0; what < 5; what++) {
            doc.is("many(" + what + ")", new Diffractory().many(what), what == 3 ? NONE : 0);
        }
        doc.is("dark(NONE)", new Diffractory().dark(NONE), 255);
    }

    private static void promise2() {
        doc.under("Promise 2");
        doc.says("Returns its number.");
        Diffractory x = new Diffractory();
        doc.is("the first", x.source(7, 7, 9), 0);
        doc.is("the second", x.source(0, 0, 1), 1);
        doc.is("the third", x.source(7, 7, 9), 2);

        doc.says(NO_SUCH_LIGHT);
        needsRange("place", BAD, 0, 7, Benches::empty, (b, n) -> b.source(n, 0, 1));
        needsRange("phase", BAD, 0, 7, Benches::empty, (b, n) -> b.source(0, n, 1));
        needsRange("strength", BAD, 1, 9, Benches::empty, (b, n) -> b.source(0, 0, n));

        doc.says("Throws `IllegalStateException` if there are 3");
        doc.takes("with 2", () -> Benches.withSources(2), b -> b.source(0, 0, 1));
        doc.refuses("with 3", STATE, () -> Benches.withSources(3), b -> b.source(0, 0, 1));
    }

    private static void promise3() {
        doc.under("Promise 3");
        doc.says("Returns its STRENGTH before.");
        Diffractory x = Benches.withSources(3);
        doc.is("the last one", x.move(2, 0, 0, 9), 4);
        doc.is("again", x.move(2, 7, 7, 1), 9);
        doc.is("again", x.move(2, 7, 7, 1), 1);
        doc.is("the first one", x.move(0, 0, 0, 1), 2);
        doc.is("the one between", x.ofSource(1, 2), 3);

        doc.says(NO_SOURCE);
        needsSource((b, n) -> b.move(n, 0, 0, 1));

        doc.says(NO_SUCH_LIGHT);
        needsRange("place", BAD, 0, 7, PromiseEdgesTest::oneSource, (b, n) -> b.move(0, n, 0, 1));
        needsRange("phase", BAD, 0, 7, PromiseEdgesTest::oneSource, (b, n) -> b.move(0, 0, n, 1));
        needsRange("strength", BAD, 1, 9, PromiseEdgesTest::oneSource, (b, n) -> b.move(0, 0, 0, n));
    }

    private static void promise4() {
        doc.under("Promise 4");
        doc.says("Returns its number.");
        Diffractory x = new Diffractory();
        for (int part = 0; part < 8; part++) {
            doc.is("the next one", x.part(part, Benches.LEAST_NUMBER[part]), part);
        }

        doc.says("Throws `IllegalArgumentException` if kind is not 0 to 10, or number not in the range of that");
        // 1 is no number of the kinds 2, 3, 5, 7 and 9
        for (int bad : Sentences.outside(0, 10)) {
            for (int number = 0; number <= 1; number++) {
                int good = number;
                doc.refuses("kind " + bad, BAD, Benches::empty, b -> b.part(bad, good));
            }
        }
        for (int k = 0; k < Benches.KINDS; k++) {
            int kind = k;
            needsRange("kind " + k, BAD, Benches.LEAST_NUMBER[k], Benches.MOST_NUMBER[k], Benches::empty,
                (b, n) -> b.part(kind, n));
        }

        doc.says("Throws `IllegalStateException` if there are 8");
        doc.takes("with 7", () -> Benches.withParts(7), b -> b.part(Benches.FAR, 0));
        doc.refuses("with 8", STATE, () -> Benches.withParts(8), b -> b.part(Benches.FAR, 0));
        doc.refuses("with 8, all out", STATE, PromiseEdgesTest::allOut, b -> b.part(Benches.FAR, 0));
    }

    private static Diffractory allOut() {
        Diffractory x = Benches.withParts(8);
        for (int part = 0; part < 8; part++) {
            x.put(part, false);
        }
        return x;
    }

    private static void promise5() {
        doc.under("Promise 5");
        doc.says("Returns that before.");
        for (int kind = 0; kind < Benches.KINDS; kind++) {
            int least = Benches.LEAST_NUMBER[kind];
            int most = Benches.MOST_NUMBER[kind];
            Diffractory x = Benches.withKind(kind, least);
            doc.is("of kind " + kind, x.set(0, most), least);
            doc.is("of kind " + kind, x.set(0, most), most);
            doc.is("of kind " + kind, x.set(0, least), most);
            doc.is("of kind " + kind, x.ofPart(0, 1), least);
        }

        doc.says(NO_PART);
        needsPart(0, (b, n) -> b.set(n, 0));

        doc.says("Throws `IllegalArgumentException` if number is not in the range of its KIND");
        for (int k = 0; k < Benches.KINDS; k++) {
            int kind = k;
            needsRange("kind " + k, BAD, Benches.LEAST_NUMBER[k], Benches.MOST_NUMBER[k],
                () -> Benches.withKind(kind, Benches.MOST_NUMBER[kind]), (b, n) -> b.set(0, n));
        }
    }

    private static void promise6() {
        doc.under("Promise 6");
        doc.says("Returns whether it was.");
        Diffractory x = Benches.withParts(8);
        doc.is("in before", x.put(7, true), true);
        doc.is("in before", x.put(7, false), true);
        doc.is("out before", x.put(7, false), false);
        doc.is("out before", x.put(7, true), false);
        doc.is("in again", x.put(7, true), true);
        doc.is("the others are in", x.many(2), 8);

        doc.says(NO_PART);
        needsPart(0, (b, n) -> b.put(n, false));
        needsPart(0, (b, n) -> b.put(n, true));
    }

    private static void promise7() {
        doc.under("Promise 7");
        doc.says("Returns that before.");
        Diffractory x = Benches.withParts(8);
        doc.is("clean", x.dirt(7, 255), 0);
        doc.is("all", x.dirt(7, 1), 255);
        doc.is("one", x.dirt(7, 128), 1);
        doc.is("not added up", x.dirt(7, 0), 128);
        doc.is("clean again", x.ofPart(7, 3), 0);
        doc.is("another one", x.dirt(0, 0), 0);

        doc.says(NO_PART);
        needsPart(0, (b, n) -> b.dirt(n, 255));

        doc.says("Throws `IllegalArgumentException` if places is not 0 to 255");
        needsRange("places", BAD, 0, 255, PromiseEdgesTest::onePart, (b, n) -> b.dirt(0, n));
    }

    private static void promise8() {
        doc.under("Promise 8");
        doc.says("Returns the sum of its EXPOSURES then.");
        Diffractory x = Benches.withSource(0, 0, 9);
        x.part(Benches.FAR, 0);
        x.part(Benches.PLATE, 0);
        doc.is("81 / 100 in each place", x.expose(1, 100), 0);
        doc.is("81 / 81 in each place", x.expose(1, 81), 8);
        doc.is("and 81 / 9 in one", exposedMore(x), 7 + 9);
        x.dirt(0, 0);
        doc.is("all 9", x.expose(1, 1), 72);
        doc.is("all 9 still", x.expose(1, 1), 72);

        doc.says(NO_PART);
        needsPart(0, (b, n) -> b.expose(n, 1));

        doc.says("Throws `IllegalArgumentException` if divisor is not 1 to 100");
        needsRange("divisor", BAD, 1, 100, PromiseEdgesTest::onePart, (b, n) -> b.expose(0, n));

        doc.says("Throws `IllegalStateException` if it is no PLATE, or OUT");
        for (int k = 0; k < Benches.KINDS; k++) {
            int kind = k;
            Sentences.Bench in = () -> Benches.withKind(kind, Benches.LEAST_NUMBER[kind]);
            doc.refuses("kind " + kind, kind == Benches.PLATE ? null : STATE, in, b -> b.expose(0, 1));
            doc.refuses("kind " + kind + ", out", STATE, () -> {
                Diffractory out = in.make();
                out.put(0, false);
                return out;
            }, b -> b.expose(0, 1));
        }
        doc.takes("another one is out", () -> {
            Diffractory other = Benches.withParts(2);
            other.put(0, false);
            return other;
        }, b -> b.expose(1, 1));
    }

    private static int exposedMore(Diffractory x) {
        x.dirt(0, 127);
        return x.expose(1, 9);
    }

    private static void promise9() {
        doc.under("Promise 9");
        doc.says("`what`: 0 to 3 a to d of X, 4 to 7 a to d of Y");
        Diffractory x = Benches.withAmplitude(1, 2, 3, 4);
        x.part(Benches.SWAP, 0);
        x.part(Benches.POLAR, 3);
        int[] behindFar = {1, 2, 3, 4, 0, 0, 0, 0};
        int[] behindSwap = {0, 0, 0, 0, 1, 2, 3, 4};
        int[] behindPolar = {-1, -2, -3, -4, 1, 2, 3, 4};
        for (int what = 0; what < 8; what++) {
            doc.is("what " + what, x.amplitude(2, 0, 1, what), behindFar[what]);
            doc.is("what " + what, x.amplitude(3, 0, 1, what), behindSwap[what]);
            doc.is("what " + what, x.amplitude(4, 0, 1, what), behindPolar[what]);
        }

        doc.says("Returns that.");
        doc.is("ahead of all", x.amplitude(NONE, 0, 0, 0), 1);
        doc.is("ahead of all, elsewhere", x.amplitude(NONE, 0, 1, 0), 0);
        x.source(7, 7, 9);
        doc.is("another source", x.amplitude(NONE, 1, 7, 3), -9);
        doc.is("the most", mostLight().amplitude(7, 2, 0, 3), -387420489);

        doc.says("Throws `IndexOutOfBoundsException` if part is not NONE, and there is no such PART, or there is no such SOURCE, or PLACE");
        needsPart(NONE, (b, n) -> b.amplitude(n, 0, 0, 0));
        needsSource((b, n) -> b.amplitude(NONE, n, 0, 0));
        needsPlace(PromiseEdgesTest::onePart, (b, n) -> b.amplitude(0, 0, n, 0));

        doc.says("Throws `IllegalArgumentException` if what is not 0 to 7");
        needsRange("what", BAD, 0, 7, PromiseEdgesTest::onePart, (b, n) -> b.amplitude(0, 0, 0, n));
    }

    /** 3 SOURCES of strength 9 in the PLACE 0, 8 PLATES that are not EXPOSED. */
    private static Diffractory mostLight() {
        Diffractory x = new Diffractory();
        for (int source = 0; source < 3; source++) {
            x.source(0, 5 + source, 9);
        }
        for (int part = 0; part < 8; part++) {
            x.part(Benches.PLATE, 0);
        }
        return x;
    }

    private static void promise10() {
        doc.under("Promise 10");
        doc.says("Returns WHOLE of the INTENSITY there.");
        doc.is("no source", new Diffractory().whole(NONE, 7), 0);
        doc.is("the least light", Benches.withSource(7, 7, 1).whole(NONE, 7), 1);
        doc.is("the most light", mostLight().whole(7, 0), 3 * 150094635296999121L);
        doc.is("ahead of it", mostLight().whole(NONE, 0), 243);
        int[] due = {4, 2, 2, 2, 0, 2, 2, 2};
        for (int place = 0; place < 8; place++) {
            doc.is("two slits, place " + place, Benches.slits(3).whole(2, place), due[place]);
        }

        doc.says(NOT_BEHIND_OR_NO_PLACE);
        needsPart(NONE, (b, n) -> b.whole(n, 0));
        needsPlace(PromiseEdgesTest::onePart, (b, n) -> b.whole(0, n));
        needsPlace(Benches::empty, (b, n) -> b.whole(NONE, n));
    }

    private static void promise11() {
        doc.under("Promise 11");
        doc.says("Returns ROOT of the INTENSITY there.");
        doc.is("no source", new Diffractory().root(NONE, 7), 0);
        int[] due = {0, 1, 0, -1, 0, -1, 0, 1};
        for (int place = 0; place < 8; place++) {
            doc.is("two slits, place " + place, Benches.slits(3).root(2, place), due[place]);
        }
        doc.is("much below 0", Benches.nearlyDark(4, 9).root(7, 4), 81 * -1086679440L);

        doc.says(NOT_BEHIND_OR_NO_PLACE);
        needsPart(NONE, (b, n) -> b.root(n, 0));
        needsPlace(PromiseEdgesTest::onePart, (b, n) -> b.root(0, n));
        needsPlace(Benches::empty, (b, n) -> b.root(NONE, n));
    }

    private static void promise12() {
        doc.under("Promise 12");
        doc.says("Returns that of the POWER.");
        doc.is("no source", new Diffractory().power(NONE, false), 0);
        doc.is("the most light", mostLight().power(7, false), 3 * 150094635296999121L);
        Diffractory x = Benches.slits(3);
        doc.is("WHOLE of all", x.power(2, false), 16);
        doc.is("ROOT of all", x.power(2, true), 0);
        x.dirt(2, 255 - 8 - 32);
        doc.is("WHOLE of the places 3 and 5", x.power(2, false), 4);
        doc.is("ROOT of the places 3 and 5", x.power(2, true), -2);
        x.dirt(2, 255);
        doc.is("dirty everywhere", x.power(2, false), 0);

        doc.says(NOT_BEHIND);
        needsPart(NONE, (b, n) -> b.power(n, false));
        needsPart(NONE, (b, n) -> b.power(n, true));
    }

    /** Two slits, and of the PLACES behind the last PART only these are clean. */
    private static Diffractory clean(int... places) {
        Diffractory x = Benches.slits(3);
        x.dirt(2, 255 - Benches.places(places));
        return x;
    }

    private static void promise13() {
        doc.under("Promise 13");
        doc.says("Returns the PLACE of the greatest INTENSITY, of several the smallest number.");
        doc.is("no source: all alike", new Diffractory().brightest(NONE), 0);
        doc.is("even light: all alike", Benches.slits(3).brightest(0), 0);
        for (int place = 0; place < 8; place++) {
            doc.is("one place alone", Benches.withSource(place, 0, 1).brightest(NONE), place);
        }
        doc.is("1 and 7 alike", clean(1, 7, 4).brightest(2), 1);
        doc.is("3 and 5 alike", clean(3, 4, 5).brightest(2), 3);
        doc.is("2 and 6 alike, 3 less by ROOT", clean(2, 3, 6).brightest(2), 2);
        doc.is("6 more by ROOT than 3", clean(3, 6).brightest(2), 6);
        doc.is("7 more by ROOT than 2 and 3", clean(2, 3, 7).brightest(2), 7);
        Diffractory x = Benches.nearlyDark(0, 9);
        x.dirt(7, 254);
        doc.is("a VALUE below 0, the dark ones alike", x.brightest(7), 1);
        x.move(0, 0, 0, 8);
        doc.is("a VALUE of 0.0, all alike", x.brightest(7), 0);

        doc.says(NOT_BEHIND);
        needsPart(NONE, (b, n) -> b.brightest(n));
    }

    private static void promise14() {
        doc.under("Promise 14");
        doc.says("Returns the set of PLACES without any INTENSITY (WHOLE and ROOT are 0).");
        doc.is("no source: full", new Diffractory().dark(NONE), 255);
        doc.is("even light: empty", Benches.slits(3).dark(0), 0);
        for (int place = 0; place < 8; place++) {
            doc.is("all but one", Benches.withSource(place, 0, 1).dark(NONE), 255 - (1 << place));
        }
        doc.is("two slits", Benches.slits(3).dark(2), 16);
        doc.is("WHOLE, but no ROOT", clean(2).dark(2), 255 - 4);
        Diffractory x = Benches.nearlyDark(4, 1);
        x.dirt(7, 255 - 16);
        doc.isDouble("its VALUE is 0.0", x.clear(7), 0.0);
        doc.is("it is not dark all the same", x.dark(7), 255 - 16);

        doc.says(NOT_BEHIND);
        needsPart(NONE, (b, n) -> b.dark(n));
    }

    private static void promise15() {
        doc.under("Promise 15");
        doc.says("Returns the smallest number of 1 to 8 by which the row of INTENSITIES can be rolled (as by ROLL) so that it is as it was (WHOLE and ROOT).");
        doc.is("no source", new Diffractory().period(NONE), 1);
        doc.is("even light", Benches.slits(1).period(2), 1);
        doc.is("slits 0 and 4", Benches.slits(17).period(2), 2);
        doc.is("slits 0 and 2", Benches.slits(5).period(2), 4);
        doc.is("slits 0 and 1", Benches.slits(3).period(2), 8);
        for (int place = 0; place < 8; place++) {
            doc.is("one place alone", Benches.withSource(place, 0, 1).period(NONE), 8);
        }
        doc.is("light in the places 0 and 4", Benches.slits(17).period(1), 4);
        doc.is("light in the places 0, 2, 4, 6", Benches.slits(85).period(1), 2);
        doc.is("ROOT alone is another one after 4", clean(1, 5).period(2), 8);
        doc.is("WHOLE alone is another one after 4", clean(2, 6, 0).period(2), 8);
        doc.is("alike after 4", clean(2, 6).period(2), 4);
        doc.is("3 and 5 alike, but not 7 and 1", clean(3, 5).period(2), 8);

        doc.says(NOT_BEHIND);
        needsPart(NONE, (b, n) -> b.period(n));
    }

    private static void promise16() {
        doc.under("Promise 16");
        doc.says("Returns how clear its fringes are: with the greatest and the least VALUE of all PLACES, Math.max(0.0, ..) of each (of type double): their difference divided by their sum; 0.0, if the sum is not above 0.0.");
        doc.isDouble("the sum is 0.0, no source", new Diffractory().clear(NONE), 0.0);
        doc.isDouble("the sum is 0.0, all dirty", clean().clear(2), 0.0);
        doc.isDouble("both alike", Benches.slits(1).clear(2), 0.0);
        doc.isDouble("the least is 0.0", Benches.slits(3).clear(2), 1.0);
        doc.isDouble("the sum is 1.0", Benches.withSource(7, 0, 1).clear(NONE), 1.0);
        doc.isDouble("the sum is 0.58..", Benches.withAmplitude(1, 0, 0, 1).clear(2), 1.0);
        double small = 3 + ROOT_2 * -2;
        doc.isDouble("the least is 0.17..", Benches.slits(7).clear(2), (9 - small) / (9 + small));
        Diffractory x = Benches.slits(3);
        x.source(2, 0, 1);
        double most = 4 + ROOT_2 * 2;
        double least = 4 + ROOT_2 * -2;
        doc.isDouble("the least in the places 3 and 4", x.clear(2), (most - least) / (most + least));
        for (int place = 0; place < 8; place++) {
            doc.isDouble("the least in the place " + place, dimIn(place, true).clear(1), (81.0 - 64.0) / (81.0 + 64.0));
            doc.isDouble("the most in the place " + place, dimIn(place, false).clear(1), (81.0 - 64.0) / (81.0 + 64.0));
        }
        // the greatest VALUE is some 4 * 10^9, the least -1.5 * 10^-5: it would be 1.000000000000007 without Math.max
        Diffractory y = Benches.nearlyDark(0, 9);
        y.dirt(7, 255 - 1 - 4 - 8);
        doc.isDouble("the least is below 0", y.clear(7), 1.0);
        y.dirt(7, 254);
        doc.isDouble("the least is below 0, the greatest 0.0", y.clear(7), 0.0);
        doc.isDouble("the most light", mostLight().clear(7), 1.0);

        doc.says(NOT_BEHIND);
        needsPart(NONE, (b, n) -> b.clear(n));
    }

    /** Even light behind a PLATE, but 8 times 8 in one PLACE, else 9 times 9, or the other way round. */
    private static Diffractory dimIn(int place, boolean isDimHere) {
        Diffractory x = Benches.withSource(0, 0, 9);
        x.part(Benches.FAR, 0);
        x.part(Benches.PLATE, 0);
        x.dirt(0, isDimHere ? 255 - (1 << place) : 1 << place);
        x.expose(1, 81);
        x.dirt(0, 0);
        x.move(0, 0, 0, 1);
        return x;
    }

    private static void promise17() {
        doc.under("Promise 17");
        doc.says("Returns its VALUE in tenths of the greatest one of all PLACES, by Math.rint(10.0 * VALUE / greatest); 0.0, if the greatest is not above 0.0.");
        doc.isDouble("the greatest is 0.0, no source", new Diffractory().tenths(NONE, 0), 0.0);
        doc.isDouble("the greatest is 0.0, all dirty", clean().tenths(2, 7), 0.0);
        doc.isDouble("the greatest itself", Benches.withSource(7, 0, 1).tenths(NONE, 7), 10.0);
        doc.isDouble("a dark one", Benches.withSource(7, 0, 1).tenths(NONE, 0), 0.0);
        doc.isDouble("0.5", tenthsOf(1, 4, 2), 0.0);
        doc.isDouble("2.5", tenthsOf(1, 2, 0), 2.0);
        doc.isDouble("4.5", tenthsOf(3, 4, 2), 4.0);
        doc.isDouble("90 / 17", tenthsOf(3, 4, 1), 5.0);
        doc.isDouble("160 / 25", tenthsOf(4, 5, 0), 6.0);
        doc.isDouble("7.5", threeQuarters().tenths(2, 2), 8.0);
        double[] due = {10, 9, 5, 1, 0, 1, 5, 9};
        for (int place = 0; place < 8; place++) {
            doc.isDouble("two slits, place " + place, Benches.slits(3).tenths(2, place), due[place]);
        }
        Diffractory x = Benches.nearlyDark(0, 9);
        doc.isDouble("a VALUE below 0", x.tenths(7, 0), -0.0);
        x.dirt(7, 254);
        doc.isDouble("a VALUE below 0, the greatest is 0.0", x.tenths(7, 0), 0.0);
        x.move(0, 0, 0, 8);
        doc.isDouble("a VALUE of 0.0, the greatest is 0.0", x.tenths(7, 0), 0.0);
        doc.isDouble("the most light", mostLight().tenths(7, 0), 10.0);

        doc.says(NOT_BEHIND_OR_NO_PLACE);
        needsPart(NONE, (b, n) -> b.tenths(n, 0));
        needsPlace(PromiseEdgesTest::onePart, (b, n) -> b.tenths(0, n));
        needsPlace(Benches::empty, (b, n) -> b.tenths(NONE, n));
    }

    /** Of a strength in the PLACE 5, with one or two others in the PLACE 2. */
    private static double tenthsOf(int strength, int other, int third) {
        Diffractory x = Benches.withSource(5, 0, strength);
        x.source(2, 0, other);
        if (third > 0) {
            x.source(2, 3, third);
        }
        return x.tenths(NONE, 5);
    }

    /** Behind two slits 16 in the PLACE 0, 12 in the PLACE 2. */
    private static Diffractory threeQuarters() {
        Diffractory x = Benches.slits(3);
        x.move(0, 0, 0, 2);
        x.source(4, 0, 1);
        x.source(4, 0, 1);
        return x;
    }

    private static void promise18() {
        doc.under("Promise 18");
        doc.says("Returns what it LOSES.");
        doc.is("the first one", Benches.slits(3).loses(0), 0);
        doc.is("the one between", Benches.slits(3).loses(1), 6);
        doc.is("the last one", clean(0).loses(2), 12);
        doc.is("no source", losesOfNone(), 0);

        doc.says(NO_PART);
        needsPart(0, (b, n) -> b.loses(n));
    }

    private static long losesOfNone() {
        Diffractory x = new Diffractory();
        x.part(Benches.MASK, 0);
        return x.loses(0);
    }

    private static void promise19() {
        doc.under("Promise 19");
        doc.says("`what`: 0 its KIND, 1 NUMBER, 2 1 if it is IN, otherwise 0, 3 the set of PLACES in which it is DIRTY, 4 the sum of EXPOSURES (0 for other KINDS), 5 how often it was EXPOSED");
        int[] first = {Benches.MASK, 255, 1, 0, 0, 0};
        int[] last = {Benches.PLATE, 0, 0, 255, 72, 2};
        Diffractory x = Benches.withSource(0, 0, 9);
        x.part(Benches.MASK, 255);
        x.part(Benches.FAR, 0);
        x.part(Benches.PLATE, 0);
        x.expose(2, 100);
        x.expose(2, 1);
        x.dirt(2, 255);
        x.put(2, false);
        for (int what = 0; what < 6; what++) {
            doc.is("of the first one, what " + what, x.ofPart(0, what), first[what]);
            doc.is("of the last one, what " + what, x.ofPart(2, what), last[what]);
        }

        doc.says("Returns that.");
        for (int kind = 0; kind < Benches.KINDS; kind++) {
            Diffractory y = Benches.withKind(kind, Benches.MOST_NUMBER[kind]);
            doc.is("kind", y.ofPart(0, 0), kind);
            doc.is("number", y.ofPart(0, 1), Benches.MOST_NUMBER[kind]);
            doc.is("sum of exposures", y.ofPart(0, 4), 0);
            doc.is("how often exposed", y.ofPart(0, 5), 0);
        }

        doc.says(NO_PART);
        needsPart(0, (b, n) -> b.ofPart(n, 0));

        doc.says("Throws `IllegalArgumentException` if what is not 0 to 5");
        needsRange("what", BAD, 0, 5, PromiseEdgesTest::onePart, (b, n) -> b.ofPart(0, n));
    }

    private static void promise20() {
        doc.under("Promise 20");
        doc.says("Returns its EXPOSURE there (0 for other KINDS).");
        int[] factors = {9, 8, 7, 5, 3, 1, 0, 0};
        Diffractory x = Benches.withSource(0, 0, 9);
        x.part(Benches.PLATE, 0);
        doc.is("at first", x.exposure(0, 0), 0);
        Benches.weigh(x, 0, factors);
        x.put(0, false);
        for (int place = 0; place < 8; place++) {
            doc.is("place " + place, x.exposure(0, place), 9 - factors[place]);
        }
        for (int kind = 0; kind < Benches.KINDS; kind++) {
            Diffractory y = Benches.withKind(kind, Benches.LEAST_NUMBER[kind]);
            doc.is("kind " + kind + ", place 0", y.exposure(0, 0), 0);
            doc.is("kind " + kind + ", place 7", y.exposure(0, 7), 0);
        }

        doc.says(NO_PART_OR_PLACE);
        needsPart(0, (b, n) -> b.exposure(n, 0));
        needsPlace(PromiseEdgesTest::onePart, (b, n) -> b.exposure(0, n));
        needsPlace(() -> Benches.withKind(Benches.FAR, 0), (b, n) -> b.exposure(0, n));
    }

    private static void promise21() {
        doc.under("Promise 21");
        doc.says("`what`: 0 its PLACE, 1 PHASE, 2 STRENGTH");
        Diffractory x = Benches.withSources(3);
        for (int source = 0; source < 3; source++) {
            doc.is("place", x.ofSource(source, 0), 5 + source);
            doc.is("phase", x.ofSource(source, 1), 1 + source);
            doc.is("strength", x.ofSource(source, 2), 2 + source);
        }
        doc.says("Returns that.");
        x.move(2, 0, 7, 9);
        doc.is("place, moved", x.ofSource(2, 0), 0);
        doc.is("phase, moved", x.ofSource(2, 1), 7);
        doc.is("strength, moved", x.ofSource(2, 2), 9);

        doc.says(NO_SOURCE);
        needsSource((b, n) -> b.ofSource(n, 0));

        doc.says("Throws `IllegalArgumentException` if what is not 0 to 2");
        needsRange("what", BAD, 0, 2, PromiseEdgesTest::oneSource, (b, n) -> b.ofSource(0, n));
    }

    private static void promise22() {
        doc.under("Promise 22");
        doc.says("Returns that.");
        doc.is("0 SOURCES", Benches.withSources(3).many(0), 3);
        doc.is("1 PARTS", allOut().many(1), 8);
        doc.is("2 those that are IN", allOut().many(2), 0);
        doc.is("2 those that are IN", Benches.full().many(2), 7);

        doc.says("3 the first PART that is IN and cannot be undone (a MASK that is not 255, a PLATE with an EXPOSURE of 9, a POLAR, one that is DIRTY anywhere; NONE)");
        doc.is("no part", new Diffractory().many(3), NONE);
        for (int kind = 0; kind < Benches.KINDS; kind++) {
            boolean isPolar = kind == Benches.POLAR;
            Diffractory x = Benches.withKind(kind, Benches.MOST_NUMBER[kind]);
            doc.is("kind " + kind + ", its greatest number", x.many(3), isPolar ? 0 : NONE);
            x.set(0, Benches.LEAST_NUMBER[kind]);
            doc.is("kind " + kind + ", its least number", x.many(3), isPolar || kind == Benches.MASK ? 0 : NONE);
            x.put(0, false);
            doc.is("kind " + kind + ", out", x.many(3), NONE);
            x.set(0, Benches.MOST_NUMBER[kind]);
            x.dirt(0, 128);
            doc.is("kind " + kind + ", dirty and out", x.many(3), NONE);
            x.put(0, true);
            doc.is("kind " + kind + ", dirty in the place 7", x.many(3), 0);
            x.dirt(0, 1);
            doc.is("kind " + kind + ", dirty in the place 0", x.many(3), 0);
        }
        doc.is("a mask of 254", Benches.withKind(Benches.MASK, 254).many(3), 0);
        for (int place = 0; place < 8; place++) {
            Diffractory x = Benches.withSource(place, 0, 9);
            x.part(Benches.PLATE, 0);
            x.expose(0, 10);
            doc.is("an exposure of 8", x.many(3), NONE);
            x.expose(0, 81);
            doc.is("an exposure of 9", x.many(3), 0);
        }
        for (int first = 0; first < 8; first++) {
            Diffractory x = Benches.withParts(8);
            for (int part = first; part < 8; part++) {
                x.dirt(part, 255);
            }
            doc.is("the first of several", x.many(3), first);
        }

        doc.says("4 how often PLATES were EXPOSED ever");
        Diffractory y = Benches.withParts(8);
        doc.is("not yet", y.many(4), 0);
        y.expose(7, 100);
        y.expose(0, 1);
        y.expose(7, 1);
        y.put(0, false);
        y.put(7, false);
        doc.is("though they are out", y.many(4), 3);

        doc.says("Throws `IllegalArgumentException` if what is not 0 to 4");
        needsRange("what", BAD, 0, 4, Benches::empty, (b, n) -> b.many(n));
        needsRange("what", BAD, 0, 4, Benches::full, (b, n) -> b.many(n));
    }

    private static void promise23() {
        doc.under("Promise 23");
        doc.says("Returns WHOLE of the INTENSITY there behind all PARTS, if that PART was OUT (or IN, if it is OUT).");
        Diffractory x = Benches.slits(3);
        doc.is("without the first one", x.without(0, 7), 1);
        doc.is("without the one between", x.without(1, 0), 64);
        doc.is("without the one between", x.without(1, 1), 0);
        doc.is("without the last one", x.without(2, 1), 1);
        doc.is("without the last one", x.without(2, 2), 0);
        x.put(1, false);
        doc.is("with the one that is out", x.without(1, 4), 0);
        doc.is("with the one that is out", x.without(1, 7), 2);
        x.dirt(1, 1);
        doc.is("with the one that is out, dirty", x.without(1, 4), 1);
        Diffractory alone = Benches.withKind(Benches.MASK, 0);
        doc.is("without the only one", alone.without(0, 2), 16);
        alone.put(0, false);
        doc.is("with the only one", alone.without(0, 2), 0);

        doc.says(NO_PART_OR_PLACE);
        needsPart(0, (b, n) -> b.without(n, 0));
        needsPlace(PromiseEdgesTest::onePart, (b, n) -> b.without(0, n));
    }

    private static void promise24() {
        doc.under("Promise 24");
        doc.says("Returns which NUMBER (0 to 7 for a ROLL or a RETARD, 1 to 3 for a FILM, 0 to 3 for a POLAR) would give that PLACE the greatest INTENSITY behind all PARTS, of several the smallest (so, if the PART is OUT, the smallest of all); NONE for other KINDS.");
        for (int place = 0; place < 8; place++) {
            Diffractory roll = Benches.withSource((8 - place) % 8, 0, 1);
            roll.part(Benches.ROLL, 3);
            doc.is("a roll by " + place, roll.best(0, 0), place);
            doc.is("a roll from 7 by 1 to 0", rollOf(7).best(0, 0), 1);
            doc.is("a roll from 0 by 7 to 7", rollOf(0).best(0, 7), 7);
        }
        Diffractory byRoot = clean(3, 6);
        byRoot.part(Benches.ROLL, 0);
        doc.is("a roll, ROOT is more from 6 by 5 than from 3 by 0", byRoot.best(3, 3), 5);
        for (int turn = 0; turn < 8; turn++) {
            doc.is("a retard by " + turn, retarded(turn).best(2, 2), turn);
        }
        doc.is("a film", Benches.withKind(Benches.FILM, 1).best(0, 2), 3);
        doc.is("a polar, of 2 and 3 the smallest", Benches.withKind(Benches.POLAR, 0).best(0, 2), 2);
        Diffractory opposite = retarded(4);
        opposite.put(2, false);
        doc.is("a polar of 3", opposite.best(3, 2), 3);
        Diffractory swapped = Benches.withKind(Benches.SWAP, 0);
        swapped.part(Benches.POLAR, 0);
        swapped.part(Benches.SWAP, 0);
        swapped.part(Benches.POLAR, 0);
        doc.is("a polar, of 1, 2 and 3 the smallest", swapped.best(1, 2), 1);

        int[] kinds = {Benches.ROLL, Benches.RETARD, Benches.FILM, Benches.POLAR};
        for (int kind : kinds) {
            Diffractory x = Benches.withKind(kind, Benches.MOST_NUMBER[kind]);
            int least = Benches.LEAST_NUMBER[kind];
            x.dirt(0, 255);
            doc.is("in the dark, kind " + kind, x.best(0, 2), least);
            x.dirt(0, 0);
            x.put(0, false);
            doc.is("out, kind " + kind, x.best(0, 2), least);
            doc.is("out, in a dark place, kind " + kind, x.best(0, 7), least);
        }
        for (int kind : new int[] {0, 1, 2, 3, 5, 7, 9}) {
            Diffractory x = Benches.withKind(kind, Benches.MOST_NUMBER[kind]);
            doc.is("kind " + kind, x.best(0, 2), NONE);
            x.put(0, false);
            doc.is("kind " + kind + ", out", x.best(0, 2), NONE);
        }

        doc.says(NO_PART_OR_PLACE);
        needsPart(0, (b, n) -> b.best(n, 0));
        needsPlace(PromiseEdgesTest::onePart, (b, n) -> b.best(0, n));
        needsPlace(() -> Benches.withKind(Benches.FILM, 1), (b, n) -> b.best(0, n));
    }

    private static Diffractory rollOf(int place) {
        Diffractory x = Benches.withSource(place, 0, 1);
        x.part(Benches.ROLL, 0);
        return x;
    }

    /** X and Y alike, Y turned back by so many eighths; a RETARD; a POLAR that puts both together. */
    private static Diffractory retarded(int turn) {
        Diffractory x = Benches.withKind(Benches.POLAR, 2);
        x.part(Benches.RETARD, (8 - turn) % 8);
        x.part(Benches.RETARD, 6);
        x.part(Benches.POLAR, 2);
        return x;
    }

    private static void promise25() {
        doc.under("Promise 25");
        doc.says("Returns the PLACE that would be the brightest one behind all PARTS, if only this SOURCE shone.");
        Diffractory x = Benches.withSource(3, 0, 1);
        x.source(7, 0, 9);
        x.source(0, 0, 9);
        doc.is("no parts", x.alone(0), 3);
        doc.is("no parts", x.alone(1), 7);
        doc.is("no parts", x.alone(2), 0);
        x.part(Benches.ROLL, 7);
        doc.is("rolled", x.alone(0), 2);
        doc.is("rolled", x.alone(2), 7);
        x.part(Benches.FAR, 0);
        doc.is("even light: the smallest number", x.alone(0), 0);
        x.part(Benches.MASK, 224);
        doc.is("5, 6 and 7 alike: the smallest number", x.alone(1), 5);
        x.put(1, false);
        x.put(2, false);
        doc.is("behind those that are in", x.alone(1), 6);
        x.dirt(0, 255);
        doc.is("all dark: the smallest number", x.alone(1), 0);

        doc.says(NO_SOURCE);
        needsSource((b, n) -> b.alone(n));
    }

    private static void promise26() {
        doc.under("Promise 26");
        doc.says("A number d starts with 9507; then d becomes d * 31 + v, which wraps around as a 64-bit integer");
        doc.is("a new object", new Diffractory().digest(), new Wrapped(new Diffractory()).digest());
        doc.is("without parts", Benches.withSources(3).digest(), new Wrapped(Benches.withSources(3)).digest());
        doc.is("without sources", allKindsIn().digest(), new Wrapped(allKindsIn()).digest());
        doc.is("full", Benches.full().digest(), new Wrapped(Benches.full()).digest());
        doc.is("8 parts out", allOut().digest(), new Wrapped(allOut()).digest());
        doc.is("the most light", mostLight().digest(), new Wrapped(mostLight()).digest());
        doc.is("numbers below 0", Benches.nearlyDark(0, 9).digest(), new Wrapped(Benches.nearlyDark(0, 9)).digest());

        doc.says("Returns d.");
        // many(3) is -1, dark(NONE) 255 and period(NONE) 1, all others are 0
        BigInteger d = BigInteger.valueOf(9507);
        int[] values = {0, 0, 0, -1, 0, 0, 0, 0, 0, 0, 0, 0, 0, 0, 0, 0, 0, 0, 0, 0, 0, 0, 255, 1};
        for (int value : values) {
            d = d.multiply(BigInteger.valueOf(31)).add(BigInteger.valueOf(value));
        }
        doc.is("a new object", new Diffractory().digest(), d.longValue());
    }

    /** 8 PARTS, no SOURCES. */
    private static Diffractory allKindsIn() {
        Diffractory x = new Diffractory();
        for (int kind : new int[] {1, 2, 3, 4, 6, 7, 8, 10}) {
            x.part(kind, Benches.MOST_NUMBER[kind]);
        }
        return x;
    }

    /** The digest from the answers of the other calls, by integers without a bound, wrapped around at the end. */
    private static final class Wrapped {
        private final Diffractory x;
        private BigInteger d = BigInteger.valueOf(9507);

        Wrapped(Diffractory x) {
            this.x = x;
        }

        private void add(long value) {
            d = d.multiply(BigInteger.valueOf(31)).add(BigInteger.valueOf(value));
        }

        long digest() {
            for (int what = 0; what <= 4; what++) {
                add(x.many(what));
            }
            int sources = x.many(0);
            int parts = x.many(1);
            for (int source = 0; source < sources; source++) {
                add(x.ofSource(source, 0));
                add(x.ofSource(source, 1));
                add(x.ofSource(source, 2));
                add(x.alone(source));
            }
            for (int part = NONE; part < parts; part++) {
                for (int place = 0; place < 8; place++) {
                    add(x.whole(part, place));
                    add(x.root(part, place));
                }
                add(x.brightest(part));
                add(x.dark(part));
                add(x.period(part));
            }
            for (int part = 0; part < parts; part++) {
                for (int what = 0; what <= 5; what++) {
                    add(x.ofPart(part, what));
                }
                add(x.loses(part));
                add(x.without(part, 3));
                add(x.best(part, 3));
            }
            return d.longValue();
        }
    }
}
