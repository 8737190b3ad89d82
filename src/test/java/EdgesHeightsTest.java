/** The edges of HEIGHT and GLIDE (part 3 of "Terms") and of promises 26, 27 and 29 to 31. */
public final class EdgesHeightsTest {
    private static final int NO_FLOAT = Flights.NO_FLOAT, ENDLESS = Flights.ENDLESS, ZERO_BELOW = 0x80000000;

    public static void main(String[] args) {
        noPoints();
        onePoint();
        twoPoints();
        tenPoints();
        atThePointBetween();
        justOutside();
        pressureZero();
        pressureLost();
        asTheTableIs();
        groundAtFirst();
        groundNone();
        groundFirstOfMoment();
        groundByTable();
        groundIsOfItsRecorder();
        groundRefused();
        heightRefused();
        levelWithoutAWay();
        levelWithAWay();
        levelBelowZero();
        wayTooSmallForAFloat();
        noWayButADifference();
        glideLacking();
        glideBeyondFloats();
        glideRefused();
        compareAnswers();
        compareNoNumbers();
        compareZeros();
        compareRefused();
        bestOfFew();
        bestEndless();
        bestOfSeveral();
        bestOfKept();
        bestRefused();
        Check.end("EdgesHeightsTest");
    }

    /** RECORDER 0, READ with these pressures, 10 s and so many degrees of latitude apart. */
    private static GliderHouse house(double step, float... pressures) {
        double[][] fixes = new double[pressures.length][];
        for (int i = 0; i < fixes.length; i++) {
            fixes[i] = Flights.fix(0, i * step);
        }
        GliderHouse x = Flights.flight(10, fixes);
        for (int i = 0; i < pressures.length; i++) {
            Flights.press(x, i, pressures[i]);
        }
        x.read(0);
        return x;
    }

    private static void tall(GliderHouse x, int k, float want) {
        Check.due("height(0, " + k + ")", x.height(0, k), Float.floatToRawIntBits(want));
        Check.due("status()", x.status(), 0);
    }

    private static void none(GliderHouse x, int k) {
        Check.due("height(0, " + k + ")", x.height(0, k), NO_FLOAT);
        Check.due("status()", x.status(), 0);
    }

    private static float between(float p, float eP, float eH, float fP, float fH) {
        return eH + (eP - p) * ((fH - eH) / (eP - fP));
    }

    private static void noPoints() {
        Check.about("Terms 3", "with two POINTS at least");
        GliderHouse x = house(0, 0f, 1000f, 2000f);
        for (int k = 0; k < 3; k++) {
            none(x, k);
        }
        Check.due("glide", x.glide(0, 0, 1), NO_FLOAT);
        Check.due("ground", x.ground(0, 10), GliderHouse.NONE);
        Check.due("bestGlide", x.bestGlide(0), GliderHouse.NONE);
    }

    private static void onePoint() {
        Check.about("Terms 3", "with two POINTS at least");
        GliderHouse x = house(0, 1000f, 999f);
        Flights.lay(x, 1000f, 77f);
        none(x, 0);
        none(x, 1);
        Check.due("ground", x.ground(0, 10), GliderHouse.NONE);
    }

    private static void twoPoints() {
        Check.about("Terms 3", "p a number from the last to the first pressure");
        GliderHouse x = house(0, 1000f, 900f, 950.3f, Math.nextDown(1000f), Math.nextUp(900f));
        Flights.lay(x, 1000f, 100.1f);
        Flights.lay(x, 900f, 1000.7f);
        float[] pressures = {1000f, 900f, 950.3f, Math.nextDown(1000f), Math.nextUp(900f)};
        for (int k = 0; k < 5; k++) {
            tall(x, k, between(pressures[k], 1000f, 100.1f, 900f, 1000.7f));
        }
        tall(x, 0, 100.1f);
    }

    private static void tenPoints() {
        Check.about("Terms 3", "HEIGHT of a pressure p by THE TABLE, of up to 10 POINTS (pressure, height), as they are told");
        float[] p = new float[10];
        float[] h = new float[10];
        GliderHouse x = house(0, 1000f, 100f, 150f, 950f, Math.nextUp(1000f), Math.nextDown(100f), 199.99f);
        for (int i = 0; i < 10; i++) {
            p[i] = 1000f - 100f * i;
            h[i] = i % 2 == 0 ? 333.3f * i : -50.5f * i;
            Check.due("table", Flights.lay(x, p[i], h[i]), i + 1);
        }
        tall(x, 0, between(1000f, p[0], h[0], p[1], h[1]));
        tall(x, 1, between(100f, p[8], h[8], p[9], h[9]));
        tall(x, 2, between(150f, p[8], h[8], p[9], h[9]));
        tall(x, 3, between(950f, p[0], h[0], p[1], h[1]));
        none(x, 4);
        none(x, 5);
        tall(x, 6, between(199.99f, p[8], h[8], p[9], h[9]));
        Check.refused(x, "an 11th", Flights.lay(x, 50f, 0f), GliderHouse.FULL);
        none(x, 5);
    }

    private static void atThePointBetween() {
        Check.about("Terms 3", "by F, of the POINTS from the second on the first whose pressure is not above p, and E, the one ahead of it");
        int told = 0;
        for (int i = 0; i < 300; i++) {
            float first = 1000f + i / 7f;
            float middle = 900.3f;
            float height = 3.3f * i;
            float byThatPoint = between(middle, first, 10.1f, middle, height);
            float byTheNext = between(middle, middle, height, 800f, 39999f);
            if (byThatPoint != byTheNext) {
                told++;
                GliderHouse x = house(0, middle, Math.nextUp(middle), Math.nextDown(middle));
                Flights.lay(x, first, 10.1f);
                Flights.lay(x, middle, height);
                Flights.lay(x, 800f, 39999f);
                tall(x, 0, byThatPoint);
                tall(x, 1, between(Math.nextUp(middle), first, 10.1f, middle, height));
                tall(x, 2, between(Math.nextDown(middle), middle, height, 800f, 39999f));
            }
        }
        Check.yes("some tell F and the next one apart", told > 0);
    }

    private static void justOutside() {
        Check.about("Terms 3", "p a number from the last to the first pressure");
        GliderHouse x = house(0, Math.nextUp(1000f), Math.nextDown(900f), 2000f, 0f, -5f, Float.NaN, Float.POSITIVE_INFINITY, Float.NEGATIVE_INFINITY);
        Flights.lay(x, 1000f, 0f);
        Flights.lay(x, 950f, 500f);
        Flights.lay(x, 900f, 1000f);
        for (int k = 0; k < 8; k++) {
            none(x, k);
        }
    }

    private static void pressureZero() {
        Check.about("Terms 3", "p a number from the last to the first pressure");
        GliderHouse x = house(0, 0f, -0f, Float.MIN_VALUE, -Float.MIN_VALUE);
        Flights.lay(x, 2000f, 0f);
        Flights.lay(x, 0f, 30000f);
        tall(x, 0, 30000f);
        tall(x, 1, 30000f);
        tall(x, 2, between(Float.MIN_VALUE, 2000f, 0f, 0f, 30000f));
        none(x, 3);
        x.clearTable();
        Flights.lay(x, 2000f, 0f);
        Flights.lay(x, -0f, 30000f);
        tall(x, 0, 30000f);
        tall(x, 1, 30000f);
    }

    private static void pressureLost() {
        Check.about("Terms 3", "Else none");
        GliderHouse x = house(0, 900f, 900f);
        Flights.lay(x, 1000f, 0f);
        Flights.lay(x, 0f, 1000f);
        x.row(0, 0, Flights.PRESSURES, 1);
        x.read(0);
        Check.due("a pressure 0 that it has", x.height(0, 0), Check.bits(1000f));
        none(x, 1);
        x.row(0, 0, Flights.PRESSURES, -1);
        x.read(0);
        none(x, 0);
    }

    private static void asTheTableIs() {
        Check.about("Terms 3", "as TABLE and GROUND are when it is asked");
        GliderHouse x = house(0, 900f);
        none(x, 0);
        Flights.lay(x, 1000f, 0f);
        none(x, 0);
        Flights.lay(x, 800f, 2000f);
        tall(x, 0, 1000f);
        x.ground(0, 10);
        tall(x, 0, 0f);
        x.clearTable();
        none(x, 0);
        Flights.lay(x, 1000f, 0f);
        Flights.lay(x, 800f, 4000f);
        tall(x, 0, 2000f - 1000f);
        x.clearTable();
        Flights.lay(x, 901f, 5f);
        Flights.lay(x, 900f, 6f);
        tall(x, 0, 6f - 1000f);
    }

    private static void groundAtFirst() {
        Check.about("Terms 3", "that less GROUND of its RECORDER (0 at first)");
        GliderHouse x = house(0, 900f);
        Flights.lay(x, 900f, -0f);
        Flights.lay(x, 800f, -5f);
        Check.due("-0 less 0 is -0", x.height(0, 0), ZERO_BELOW);
        x.clearTable();
        Flights.lay(x, 900f, -0f);
        Flights.lay(x, 800f, 5f);
        Check.due("-0 and 0 are 0", x.height(0, 0), 0);
    }

    private static void groundNone() {
        Check.about("Promise 26", "NONE: there is none such");
        GliderHouse x = house(0, 900f, 500f, 900f);
        Flights.lay(x, 1000f, 0f);
        Flights.lay(x, 800f, 2000f);
        x.row(0, 0, Flights.PRESSURES, 2);
        Flights.press(x, 0, 900f);
        Flights.press(x, 1, 500f);
        x.read(0);
        Check.due("ground", x.ground(0, 10), 1);
        long[] moments = {9, 11, 0, -1, 20, 30, Long.MIN_VALUE, Long.MAX_VALUE, 10 + (1L << 32)};
        for (long moment : moments) {
            x.lack(-1);
            Check.due("ground at " + moment, x.ground(0, moment), GliderHouse.NONE);
            Check.due("NONE is no refusal", x.status(), 0);
            tall(x, 0, 0f);
        }
        GliderHouse y = new GliderHouse();
        y.trace();
        y.recorder(0, 0);
        y.read(0);
        Check.due("without READINGS", y.ground(0, 0), GliderHouse.NONE);
    }

    private static void groundFirstOfMoment() {
        Check.about("Promise 26", "GROUND becomes the HEIGHT by TABLE of the first READING of a moment that has one: 1");
        GliderHouse x = house(0, 700f, 900f, 850f, 800f);
        Flights.lay(x, 1000f, 0f);
        Flights.lay(x, 800f, 2000f);
        for (int i = 0; i < 3; i++) {
            x.set(0, 0, Flights.MOMENTS, i, 50);
        }
        x.read(0);
        Check.due("READING 0 has none, READING 1 has", x.ground(0, 50), 1);
        tall(x, 1, 0f);
        tall(x, 3, 1000f);
        // it need not be KEPT, nor have a fix
        Flights.put(x, 1, Flights.fix(Double.NaN, 0));
        x.read(0);
        Check.due("KEPT", x.reading(0, 1, 6), 0);
        Check.due("ground", x.ground(0, 50), 1);
        tall(x, 3, 1000f);
        x.set(0, 0, Flights.MOMENTS, 3, 0);
        x.read(0);
        Check.due("moment 0", x.ground(0, 0), 1);
        tall(x, 1, 1000f - 2000f);
    }

    private static void groundByTable() {
        Check.about("Promise 26", "GROUND becomes the HEIGHT by TABLE");
        GliderHouse x = house(0, 900f, 850f);
        Flights.lay(x, 1000f, 0f);
        Flights.lay(x, 800f, 2000f);
        x.ground(0, 10);
        Check.due("again", x.ground(0, 10), 1);
        tall(x, 0, 0f);
        x.ground(0, 20);
        tall(x, 0, 1000f - 1500f);
        x.read(0);
        tall(x, 0, 1000f - 1500f);
    }

    private static void groundIsOfItsRecorder() {
        Check.about("Terms 3", "that less GROUND of its RECORDER (0 at first)");
        GliderHouse x = house(0, 900f);
        Flights.lay(x, 1000f, 0f);
        Flights.lay(x, 800f, 2000f);
        x.recorder(0, 0);
        x.doubled(0, 1);
        x.read(1);
        x.ground(0, 10);
        x.read(2);
        tall(x, 0, 0f);
        Check.due("the other one's", x.height(1, 0), Check.bits(1000f));
        Check.due("the DOUBLED one's", x.height(2, 0), Check.bits(1000f));
        Check.due("ground of a DOUBLED one", x.ground(2, 10), 1);
        Check.due("the DOUBLED one's", x.height(2, 0), 0);
        Check.due("the other one's", x.height(1, 0), Check.bits(1000f));
    }

    private static void groundRefused() {
        Check.about("Promise 26", "NONE: there is none such. UNKNOWN; STATE");
        GliderHouse x = house(0, 900f);
        x.recorder(0, 0);
        int[] unknown = {-1, 2, 8, Integer.MAX_VALUE};
        for (int r : unknown) {
            Check.refused(x, "ground(" + r + ", 10)", x.ground(r, 10), GliderHouse.UNKNOWN);
        }
        Check.refused(x, "not READ", x.ground(1, 10), GliderHouse.STATE);
        Check.refused(x, "not READ, no such moment", x.ground(1, -1), GliderHouse.STATE);
    }

    private static void heightRefused() {
        Check.about("Promise 27", "UNKNOWN (0; STATUS): RECORDER, READING; STATE likewise");
        GliderHouse x = house(0, 900f, 900f);
        x.recorder(0, 0);
        int[] unknown = {-1, 2, 8, Integer.MAX_VALUE};
        for (int r : unknown) {
            Check.refusedAs(x, "RECORDER " + r, x.height(r, 0), 0, GliderHouse.UNKNOWN);
        }
        int[] readings = {-1, 2, 192, Integer.MIN_VALUE, Integer.MAX_VALUE};
        for (int k : readings) {
            Check.refusedAs(x, "READING " + k, x.height(0, k), 0, GliderHouse.UNKNOWN);
            Check.refusedAs(x, "STATE ahead of READING " + k, x.height(1, k), 0, GliderHouse.STATE);
        }
        Check.refusedAs(x, "not READ", x.height(1, 0), 0, GliderHouse.STATE);
        none(x, 1);
    }

    /** Heights -0 at 900, 0 at 700 and -100 at 800, so that their difference can be -0. */
    private static void zerosOfBothSigns(GliderHouse x) {
        Flights.lay(x, 900f, -0f);
        Flights.lay(x, 800f, -100f);
        Flights.lay(x, 700f, 0f);
    }

    private static void levelWithoutAWay() {
        Check.about("Terms 3", "a difference of 0 (also -0): endless (above 0), or no number, if the WAY (as the double that it is) is 0");
        GliderHouse x = house(0, 900f, 700f, 900f);
        zerosOfBothSigns(x);
        Check.due("height -0", x.height(0, 0), ZERO_BELOW);
        Check.due("height 0", x.height(0, 1), 0);
        Check.due("a difference of -0", x.glide(0, 0, 1), NO_FLOAT);
        Check.due("a difference of 0", x.glide(0, 1, 0), NO_FLOAT);
        Check.due("of -0 less -0", x.glide(0, 0, 2), NO_FLOAT);
        Check.due("of one READING", x.glide(0, 1, 1), NO_FLOAT);
        Check.due("no refusal", x.status(), 0);
    }

    private static void levelWithAWay() {
        Check.about("Terms 3", "a difference of 0 (also -0): endless (above 0)");
        GliderHouse x = house(0.001, 800f, 800f);
        zerosOfBothSigns(x);
        Check.due("there", x.glide(0, 0, 1), ENDLESS);
        Check.due("and back", x.glide(0, 1, 0), ENDLESS);
    }

    private static void levelBelowZero() {
        Check.about("Terms 3", "a difference of 0 (also -0): endless (above 0)");
        GliderHouse x = house(0.001, 900f, 700f);
        zerosOfBothSigns(x);
        Check.due("-0 less 0", x.glide(0, 0, 1), ENDLESS);
        Check.due("0 less -0", x.glide(0, 1, 0), ENDLESS);
        Check.due("as great as each other", x.compare(0, 0, 1, 1, 0), 0);
    }

    private static void wayTooSmallForAFloat() {
        Check.about("Terms 3", "if the WAY (as the double that it is) is 0");
        GliderHouse x = house(0, 900f, 900f, 800f);
        Flights.put(x, 1, Flights.fix(0, 1e-60));
        x.read(0);
        zerosOfBothSigns(x);
        Check.yes("the WAY is above 0", x.way(0, 0, 1) > 0);
        Check.due("level", x.glide(0, 0, 1), ENDLESS);
        Check.due("the WAY as a float is 0", x.glide(0, 1, 2), 0);
        Check.due("the WAY as a float is 0", x.glide(0, 2, 1), ZERO_BELOW);
        // so small that its square is 0: the WAY is 0 as a double
        Flights.put(x, 1, Flights.fix(0, 1e-200));
        x.read(0);
        Check.due("the WAY is 0", x.way(0, 0, 1), 0);
        Check.due("level", x.glide(0, 0, 1), NO_FLOAT);
    }

    private static void noWayButADifference() {
        Check.about("Terms 3", "WAY, as a float, by HEIGHT of i less that of j");
        GliderHouse x = house(0, 900f, 800f);
        zerosOfBothSigns(x);
        Check.due("down", x.glide(0, 0, 1), 0);
        Check.due("up", x.glide(0, 1, 0), ZERO_BELOW);
        GliderHouse y = house(0.001, 900f, 800f);
        zerosOfBothSigns(y);
        float way = (float) Flights.way(Flights.fix(0, 0), Flights.fix(0, 0.001));
        Check.due("down", y.glide(0, 0, 1), Check.bits(way / 100f));
        Check.due("up", y.glide(0, 1, 0), Check.bits(way / -100f));
        // both HEIGHTS are less GROUND before their difference is taken
        y.clearTable();
        Flights.lay(y, 900f, 0.1f);
        Flights.lay(y, 800f, 0.3f);
        Flights.lay(y, 700f, 40000f);
        Flights.press(y, 1, 700f);
        y.read(0);
        y.ground(0, 20);
        float high = between(700f, 800f, 0.3f, 700f, 40000f);
        float low = between(900f, 900f, 0.1f, 800f, 0.3f);
        Check.due("by HEIGHTS less GROUND", y.glide(0, 0, 1), Check.bits(way / ((low - high) - (high - high))));
    }

    private static void glideLacking() {
        Check.about("Terms 3", "none is no number where a fix or HEIGHT lacks");
        GliderHouse x = house(0.001, 900f, 800f, 600f, 800f);
        zerosOfBothSigns(x);
        Flights.put(x, 3, Flights.fix(181, 0));
        x.read(0);
        Check.due("no HEIGHT of j", x.glide(0, 0, 2), NO_FLOAT);
        Check.due("no HEIGHT of i", x.glide(0, 2, 0), NO_FLOAT);
        Check.due("no fix of j", x.glide(0, 0, 3), NO_FLOAT);
        Check.due("no fix of i", x.glide(0, 3, 0), NO_FLOAT);
        Check.due("neither", x.glide(0, 2, 3), NO_FLOAT);
        Check.due("level, but no fix", x.glide(0, 1, 3), NO_FLOAT);
        Check.due("one without a HEIGHT with itself", x.glide(0, 2, 2), NO_FLOAT);
        Check.due("no refusal", x.status(), 0);
        // one that JUMPS has a GLIDE, too
        GliderHouse y = house(0.001, 900f, 800f);
        zerosOfBothSigns(y);
        y.set(0, 0, Flights.MOMENTS, 1, 5);
        y.read(0);
        Check.due("KEPT", y.reading(0, 1, 6), 0);
        Check.yes("a GLIDE", y.glide(0, 0, 1) != NO_FLOAT);
    }

    private static void glideBeyondFloats() {
        Check.about("Terms 3", "WAY, as a float, by HEIGHT of i less that of j");
        GliderHouse x = house(0.1, 900f, 800f);
        Flights.lay(x, 900f, 1e-42f);
        Flights.lay(x, 800f, 0f);
        Check.due("beyond all floats", x.glide(0, 0, 1), ENDLESS);
        Check.due("below all floats", x.glide(0, 1, 0), 0xFF800000);
        Check.due("the one is above the other", x.compare(0, 0, 1, 1, 0), 1);
        Check.due("bestGlide", x.bestGlide(0), 0);
    }

    private static void glideRefused() {
        Check.about("Promise 29", "Bits of the GLIDE (a float's) from READING i to j. Likewise");
        GliderHouse x = house(0.001, 900f, 800f);
        x.recorder(0, 0);
        int[] unknown = {-1, 2, 8, Integer.MIN_VALUE};
        for (int r : unknown) {
            Check.refusedAs(x, "RECORDER " + r, x.glide(r, 0, 1), 0, GliderHouse.UNKNOWN);
        }
        int[] readings = {-1, 2, 192, Integer.MIN_VALUE, Integer.MAX_VALUE};
        for (int k : readings) {
            Check.refusedAs(x, "READING i " + k, x.glide(0, k, 0), 0, GliderHouse.UNKNOWN);
            Check.refusedAs(x, "READING j " + k, x.glide(0, 0, k), 0, GliderHouse.UNKNOWN);
            Check.refusedAs(x, "STATE ahead of READING " + k, x.glide(1, k, k), 0, GliderHouse.STATE);
        }
    }

    private static void compareAnswers() {
        Check.about("Promise 30", "GLIDE from i to j against that from k to l: -1, 0, 1");
        GliderHouse x = house(0.001, 900f, 890f, 895f, 895f, 880f);
        Flights.lay(x, 900f, 0f);
        Flights.lay(x, 800f, 1000f);
        Check.due("below 0 against above", x.compare(0, 0, 1, 1, 2), -1);
        Check.due("above against below 0", x.compare(0, 1, 2, 0, 1), 1);
        Check.due("one with itself", x.compare(0, 1, 2, 1, 2), 0);
        Check.due("endless against a number", x.compare(0, 2, 3, 1, 2), 1);
        Check.due("a number against endless", x.compare(0, 1, 2, 2, 3), -1);
        Check.due("endless against endless", x.compare(0, 2, 3, 3, 2), 0);
        Check.due("two below 0", x.compare(0, 0, 4, 3, 4), 0 + Float.compare((float) Flights.way(Flights.fix(0, 0), Flights.fix(0, 0.004)) / -200f,
            (float) Flights.way(Flights.fix(0, 0.003), Flights.fix(0, 0.004)) / -150f));
        Check.due("status()", x.status(), 0);
    }

    private static void compareNoNumbers() {
        Check.about("Promise 30", "2: one is no number");
        GliderHouse x = house(0.001, 900f, 890f, 700f, 890f);
        Flights.lay(x, 900f, 0f);
        Flights.lay(x, 800f, 1000f);
        Check.due("the first", x.compare(0, 0, 2, 0, 1), 2);
        Check.due("the second", x.compare(0, 0, 1, 0, 2), 2);
        Check.due("both", x.compare(0, 0, 2, 0, 2), 2);
        Check.due("against endless", x.compare(0, 1, 3, 1, 1), 2);
        Check.due("no refusal", x.status(), 0);
    }

    private static void compareZeros() {
        Check.about("Promise 30", "GLIDE from i to j against that from k to l: -1, 0, 1");
        GliderHouse x = house(0, 900f, 890f);
        Flights.lay(x, 900f, 0f);
        Flights.lay(x, 800f, 1000f);
        Check.due("down without a WAY", x.glide(0, 1, 0), 0);
        Check.due("up without a WAY", x.glide(0, 0, 1), ZERO_BELOW);
        Check.due("0 against -0", x.compare(0, 1, 0, 0, 1), 0);
        Check.due("-0 against 0", x.compare(0, 0, 1, 1, 0), 0);
    }

    private static void compareRefused() {
        Check.about("Promise 30", "2: one is no number. UNKNOWN; STATE");
        GliderHouse x = house(0.001, 900f, 890f);
        x.recorder(0, 0);
        int[] unknown = {-1, 2, 8, Integer.MAX_VALUE};
        for (int r : unknown) {
            Check.refused(x, "RECORDER " + r, x.compare(r, 0, 0, 0, 0), GliderHouse.UNKNOWN);
        }
        int[] wrong = {-1, 2, Integer.MAX_VALUE};
        for (int k : wrong) {
            Check.refused(x, "i " + k, x.compare(0, k, 1, 0, 1), GliderHouse.UNKNOWN);
            Check.refused(x, "j " + k, x.compare(0, 0, k, 0, 1), GliderHouse.UNKNOWN);
            Check.refused(x, "k " + k, x.compare(0, 0, 1, k, 1), GliderHouse.UNKNOWN);
            Check.refused(x, "l " + k, x.compare(0, 0, 1, 0, k), GliderHouse.UNKNOWN);
            Check.refused(x, "STATE ahead of READINGS", x.compare(1, k, k, k, k), GliderHouse.STATE);
        }
    }

    private static void bestOfFew() {
        Check.about("Promise 31", "NONE: all are no numbers");
        GliderHouse none = new GliderHouse();
        none.trace();
        none.recorder(0, 0);
        none.read(0);
        Check.due("0 KEPT", none.bestGlide(0), GliderHouse.NONE);
        Check.due("NONE is no refusal", none.status(), 0);
        GliderHouse one = house(0, 900f);
        zerosOfBothSigns(one);
        Check.due("1 KEPT", one.bestGlide(0), GliderHouse.NONE);
        GliderHouse two = house(0, 900f, 900f);
        zerosOfBothSigns(two);
        Check.due("2 KEPT, no number", two.bestGlide(0), GliderHouse.NONE);
        Flights.press(two, 1, 800f);
        two.read(0);
        Check.due("2 KEPT, down without a WAY", two.bestGlide(0), 0);
        GliderHouse up = house(0.001, 800f, 900f);
        zerosOfBothSigns(up);
        Check.due("2 KEPT, below 0", up.bestGlide(0), 0);
    }

    private static void bestEndless() {
        Check.about("Promise 31", "the greatest (endless above all)");
        GliderHouse x = house(0.001, 900f, 800f, 800f, 790f, 790f);
        zerosOfBothSigns(x);
        Check.due("endless", x.bestGlide(0), 1);
        // all floats are below endless, also the one that is endless below 0
        GliderHouse y = house(0.1, 900f, 800f, 900f);
        Flights.lay(y, 900f, 0f);
        Flights.lay(y, 800f, 1e-42f);
        Check.due("endless below 0, then above", y.bestGlide(0), 1);
    }

    private static void bestOfSeveral() {
        Check.about("Promise 31", "the first READING's number, the first of several");
        GliderHouse x = house(0.25, 900f, 890f, 880f, 870f);
        Flights.lay(x, 900f, 3000f);
        Flights.lay(x, 800f, 2000f);
        Check.due("three are equal", x.glide(0, 0, 1), x.glide(0, 2, 3));
        Check.due("the first", x.bestGlide(0), 0);
        Flights.press(x, 1, 880f);
        Flights.press(x, 2, 870f);
        Flights.press(x, 3, 860f);
        x.read(0);
        Check.due("the second and third are equal", x.bestGlide(0), 1);
        GliderHouse y = house(0, 890f, 900f, 890f);
        Flights.lay(y, 900f, 0f);
        Flights.lay(y, 800f, 1000f);
        Check.due("0, then -0", y.bestGlide(0), 0);
        GliderHouse z = house(0, 900f, 890f, 900f);
        Flights.lay(z, 900f, 0f);
        Flights.lay(z, 800f, 1000f);
        Check.due("-0, then 0", z.bestGlide(0), 0);
    }

    private static void bestOfKept() {
        Check.about("Promise 31", "Of the GLIDES from each KEPT READING to the next KEPT one");
        GliderHouse x = house(0.001, 900f, 900f, 890f, 880f);
        Flights.lay(x, 900f, 3000f);
        Flights.lay(x, 800f, 2000f);
        Check.due("endless", x.bestGlide(0), 0);
        x.set(0, 0, Flights.MOMENTS, 1, 10);
        x.read(0);
        Check.due("over one that JUMPS", x.bestGlide(0), 0);
        Flights.put(x, 0, Flights.fix(0, 91));
        x.set(0, 0, Flights.MOMENTS, 1, 20);
        x.read(0);
        Check.due("READINGS keep their numbers", x.bestGlide(0), 1);
        // the next KEPT one has no HEIGHT: the one behind it is not taken instead
        Flights.press(x, 2, 100f);
        x.read(0);
        Check.due("no HEIGHT between", x.bestGlide(0), GliderHouse.NONE);
    }

    private static void bestRefused() {
        Check.about("Promise 31", "NONE: all are no numbers. UNKNOWN; STATE");
        GliderHouse x = house(0.001, 900f, 890f);
        x.recorder(0, 0);
        int[] unknown = {-1, 2, 8, Integer.MIN_VALUE};
        for (int r : unknown) {
            Check.refused(x, "RECORDER " + r, x.bestGlide(r), GliderHouse.UNKNOWN);
        }
        Check.refused(x, "not READ", x.bestGlide(1), GliderHouse.STATE);
    }
}
