/** The edges of WAY (part 3 of "Terms"), of THE GREATEST WAY (part 5) and of promises 28 and 32 to 35. */
public final class EdgesWaysTest {
    public static void main(String[] args) {
        wayAtTheEnds();
        wayOfNothing();
        wayWithoutAFix();
        wayRefused();
        flownOfFew();
        flownInOrder();
        flownRefused();
        bestOfFew();
        bestOfTwo();
        bestOfSixty();
        bestOfSixtyOne();
        bestEachMth();
        bestLastChosen();
        bestFourCorners();
        bestEqualCorners();
        bestLeastOthers();
        bestZeroLegs();
        bestShortLegs();
        bestRefused();
        cornersAtTheirEnds();
        cornersOfTheLatest();
        boundAtSixty();
        boundOfSixtyOne();
        boundOfKept();
        boundRefused();
        Check.end("EdgesWaysTest");
    }

    private static double[] fix(double longitude, double latitude) {
        return Flights.fix(longitude, latitude);
    }

    private static double way(double[] a, double[] b) {
        return Flights.way(a, b);
    }

    private static void wayAtTheEnds() {
        Check.about("Terms 3", "WAY is the root of u u + v v");
        double[][] fixes = {fix(-180, -90), fix(180, 90), fix(-180, 90), fix(180, -90), fix(180, 0), fix(-180, 0), fix(0, 90), fix(0, -90), fix(0, 0), fix(-0.0, -0.0)};
        GliderHouse x = Flights.flight(1000, fixes);
        for (int i = 0; i < fixes.length; i++) {
            for (int j = 0; j < fixes.length; j++) {
                Check.due("way(0, " + i + ", " + j + ")", x.way(0, i, j), Check.bits(way(fixes[i], fixes[j])));
            }
        }
        Check.due("there and back are the same", x.way(0, 0, 4), x.way(0, 4, 0));
        Check.yes("180 and -180 are far apart", Double.longBitsToDouble(x.way(0, 4, 5)) > 4e7);
    }

    private static void wayOfNothing() {
        Check.about("Terms 3", "WAY is the root of u u + v v");
        double[][] fixes = {fix(0, 0), fix(0, Double.MIN_VALUE), fix(Double.MIN_VALUE, 0), fix(0, 1e-170), fix(0, 1e-160), fix(1e-165, 0)};
        GliderHouse x = Flights.flight(1000, fixes);
        Check.due("of one READING", x.way(0, 0, 0), 0);
        Check.due("so near that the squares are 0", x.way(0, 0, 1), 0);
        Check.due("so near that the squares are 0", x.way(0, 0, 2), 0);
        for (int j = 0; j < fixes.length; j++) {
            Check.due("to " + j, x.way(0, 0, j), Check.bits(way(fixes[0], fixes[j])));
        }
        Check.yes("so near that they are not", x.way(0, 0, 4) > 0);
    }

    private static void wayWithoutAFix() {
        Check.about("Promise 28", "no number: one has none");
        GliderHouse x = Flights.flight(10, fix(0, 0), fix(180.5, 0), fix(0, 0), fix(0, 1));
        x.set(0, 0, Flights.MOMENTS, 3, 5);
        x.read(0);
        Check.due("the first has none", x.way(0, 1, 0), Flights.NO_NUMBER);
        Check.due("the second has none", x.way(0, 0, 1), Flights.NO_NUMBER);
        Check.due("neither has one", x.way(0, 1, 1), Flights.NO_NUMBER);
        Check.due("no refusal", x.status(), 0);
        Check.due("one that JUMPS has one", x.way(0, 0, 3), Check.bits(way(fix(0, 0), fix(0, 1))));
    }

    private static void wayRefused() {
        Check.about("Promise 28", "Bits of the WAY between the fixes of two READINGS. Likewise");
        GliderHouse x = Flights.flight(10, fix(0, 0), fix(181, 0));
        x.recorder(0, 0);
        int[] unknown = {-1, 2, 8, Integer.MIN_VALUE};
        for (int r : unknown) {
            Check.refusedAs(x, "RECORDER " + r, x.way(r, 0, 0), 0, GliderHouse.UNKNOWN);
        }
        int[] readings = {-1, 2, 192, Integer.MIN_VALUE, Integer.MAX_VALUE};
        for (int k : readings) {
            Check.refusedAs(x, "READING i " + k, x.way(0, k, 0), 0, GliderHouse.UNKNOWN);
            Check.refusedAs(x, "READING j " + k + ", though i has no fix", x.way(0, 1, k), 0, GliderHouse.UNKNOWN);
            Check.refusedAs(x, "STATE ahead of READING " + k, x.way(1, k, k), 0, GliderHouse.STATE);
        }
    }

    private static void flownOfFew() {
        Check.about("Promise 32", "Bits of the WAYS of KEPT fixes, one behind the other, together from 0");
        GliderHouse none = new GliderHouse();
        none.trace();
        none.recorder(0, 0);
        none.read(0);
        Check.due("0 KEPT", none.flown(0), 0);
        Check.due("no refusal", none.status(), 0);
        Check.due("1 KEPT", Flights.flight(10, fix(7, 7)).flown(0), 0);
        Check.due("2 KEPT", Flights.flight(10, fix(7, 7), fix(7, 8)).flown(0), Check.bits(0.0 + way(fix(7, 7), fix(7, 8))));
        Check.due("2 KEPT, standing", Flights.flight(10, fix(7, 7), fix(7, 7)).flown(0), 0);
        Check.due("no fix at all", Flights.flight(10, fix(181, 7), fix(7, 91)).flown(0), 0);
    }

    private static void flownInOrder() {
        Check.about("Promise 32", "Bits of the WAYS of KEPT fixes, one behind the other, together from 0");
        double[][] fixes = new double[192][];
        double sum = 0.0;
        for (int i = 0; i < 192; i++) {
            fixes[i] = fix(0.1 * (i % 7), 0.01 * i * (i % 3));
            sum = i == 0 ? 0.0 : sum + way(fixes[i - 1], fixes[i]);
        }
        Check.due("192 KEPT", Flights.flight(100, fixes).flown(0), Check.bits(sum));
        GliderHouse x = Flights.flight(10, fix(0, 0), fix(0, 1), fix(0, 0.3));
        x.set(0, 0, Flights.MOMENTS, 1, 10);
        x.read(0);
        Check.due("one that JUMPS is left out", x.flown(0), Check.bits(0.0 + way(fix(0, 0), fix(0, 0.3))));
    }

    private static void flownRefused() {
        Check.about("Promise 32", "together from 0. Likewise as way()");
        GliderHouse x = Flights.flight(10, fix(0, 0));
        x.recorder(0, 0);
        int[] unknown = {-1, 2, 8, Integer.MAX_VALUE};
        for (int r : unknown) {
            Check.refusedAs(x, "flown(" + r + ")", x.flown(r), 0, GliderHouse.UNKNOWN);
        }
        Check.refusedAs(x, "not READ", x.flown(1), 0, GliderHouse.STATE);
    }

    private static void greatest(GliderHouse x, double want, int... corners) {
        Check.due("best(0)", x.best(0), Check.bits(want));
        Check.due("status()", x.status(), 0);
        for (int k = 0; k < corners.length; k++) {
            Check.due("corner(" + k + ")", x.corner(k), corners[k]);
        }
        Check.due("corner(" + corners.length + ")", x.corner(corners.length), GliderHouse.NONE);
    }

    private static void bestOfFew() {
        Check.about("Terms 5", "0.0 with fewer than two");
        GliderHouse none = new GliderHouse();
        none.trace();
        none.recorder(0, 0);
        none.read(0);
        greatest(none, 0.0);
        Check.due("bound", none.bound(0), 0);
        GliderHouse one = Flights.flight(10, fix(7, 7));
        greatest(one, 0.0);
        Check.due("bound", one.bound(0), 0);
        GliderHouse oneKept = Flights.flight(10, fix(7, 7), fix(181, 7), fix(7, 91));
        greatest(oneKept, 0.0);
        Check.due("bound", oneKept.bound(0), 0);
    }

    private static void bestOfTwo() {
        Check.about("Terms 5", "from the first to the last by 0 to 4 others, in order");
        GliderHouse x = Flights.flight(10, fix(7, 7), fix(8, 7.5));
        greatest(x, way(fix(7, 7), fix(8, 7.5)));
        Check.due("bound", x.bound(0), x.best(0));
        GliderHouse three = Flights.flight(10, fix(0, 0), fix(1, 1), fix(0, 0.5));
        greatest(three, way(fix(0, 0), fix(1, 1)) + way(fix(1, 1), fix(0, 0.5)), 1);
    }

    /** Fixes near the equator, but for a few far off. */
    private static double[][] mostlyNear(int n, int... far) {
        double[][] fixes = new double[n][];
        for (int i = 0; i < n; i++) {
            fixes[i] = fix(0.0001 * i, 0);
        }
        for (int i : far) {
            fixes[i] = fix(0.0001 * i, 3);
        }
        return fixes;
    }

    private static double along(double[][] fixes, int... stops) {
        double sum = way(fixes[stops[0]], fixes[stops[1]]);
        for (int i = 2; i < stops.length; i++) {
            sum = sum + way(fixes[stops[i - 1]], fixes[stops[i]]);
        }
        return sum;
    }

    private static void bestOfSixty() {
        Check.about("Terms 5", "when 60 are KEPT at most all");
        double[][] fixes = mostlyNear(60, 31);
        GliderHouse x = Flights.flight(100, fixes);
        x.best(0);
        Check.due("READING 31 is chosen", x.corner(0) == 31 || x.corner(1) == 31 || x.corner(2) == 31 || x.corner(3) == 31 ? 1 : 0, 1);
        double[][] last = mostlyNear(60, 59);
        GliderHouse y = Flights.flight(100, last);
        Check.yes("READING 59 is the last", Double.longBitsToDouble(y.best(0)) > 3 * 111000);
    }

    private static void bestOfSixtyOne() {
        Check.about("Terms 5", "else each m-th from the first on, m being the KEPT by 60, rounded up");
        double[][] odd = mostlyNear(61, 31);
        GliderHouse x = Flights.flight(100, odd);
        Check.yes("READING 31 is not chosen", Double.longBitsToDouble(x.best(0)) < 111000);
        double[][] even = mostlyNear(61, 30);
        GliderHouse y = Flights.flight(100, even);
        Check.yes("READING 30 is", Double.longBitsToDouble(y.best(0)) > 6 * 111000);
        double[][] last = mostlyNear(61, 60);
        GliderHouse z = Flights.flight(100, last);
        Check.yes("READING 60 is the last", Double.longBitsToDouble(z.best(0)) > 3 * 111000);
        // 61 READINGS, but 60 KEPT: all are chosen
        double[][] lost = mostlyNear(61, 31);
        lost[5] = fix(181, 0);
        GliderHouse w = Flights.flight(100, lost);
        Check.yes("READING 31 is chosen", Double.longBitsToDouble(w.best(0)) > 6 * 111000);
    }

    private static void bestEachMth() {
        Check.about("Terms 5", "m being the KEPT by 60, rounded up");
        int[][] counts = {{119, 2}, {120, 2}, {121, 3}, {180, 3}, {181, 4}, {192, 4}};
        for (int[] c : counts) {
            int m = c[1];
            for (int i = 6 * m - 1; i <= 6 * m + 1; i++) {
                GliderHouse x = Flights.flight(100, mostlyNear(c[0], i));
                boolean chosen = Double.longBitsToDouble(x.best(0)) > 6 * 111000;
                Check.due("READING " + i + " of " + c[0], chosen ? 1 : 0, i == 6 * m ? 1 : 0);
            }
        }
    }

    private static void bestLastChosen() {
        Check.about("Terms 5", "of chosen fixes, when 60 are KEPT at most all, else each m-th from the first on");
        // of 62 each second one: 60 is the last of these, 61 is not among them
        double[][] fixes = mostlyNear(62, 61);
        GliderHouse x = Flights.flight(100, fixes);
        Check.yes("the last of the chosen ones", Double.longBitsToDouble(x.best(0)) < 111000);
        fixes = mostlyNear(62, 60);
        GliderHouse y = Flights.flight(100, fixes);
        Check.yes("READING 60 is the last", Double.longBitsToDouble(y.best(0)) > 3 * 111000);
    }

    private static void bestFourCorners() {
        Check.about("Terms 5", "by 0 to 4 others, in order: sums from the first leg on");
        double[][] fixes = {fix(0, 0), fix(0, 4), fix(0, 0.1), fix(0, 5), fix(0, 0.2), fix(0, 3), fix(0, 1)};
        GliderHouse x = Flights.flight(100, fixes);
        // five corners would be more, but four are the most
        greatest(x, along(fixes, 0, 1, 2, 3, 4, 6), 1, 2, 3, 4);
        double[][] six = {fix(0, 0), fix(0, 4), fix(0, 0.1), fix(0, 5), fix(0, 0.2), fix(0, 3)};
        greatest(Flights.flight(100, six), along(six, 0, 1, 2, 3, 4, 5), 1, 2, 3, 4);
    }

    private static void bestEqualCorners() {
        Check.about("Terms 5", "the least i of several (none without one)");
        double[][] fixes = {fix(0, 0), fix(0, 1), fix(0, 2), fix(0, 2), fix(0, 2), fix(0, 0), fix(0, 0)};
        greatest(Flights.flight(100, fixes), along(fixes, 0, 2, 6), 2);
        // mirrored sides: the sums are equal, the least one is taken
        double[][] mirrored = {fix(0, 0), fix(1, 0), fix(-1, 0), fix(0, 0)};
        GliderHouse x = Flights.flight(100, mirrored);
        greatest(x, along(mirrored, 0, 1, 2, 3), 1, 2);
        double[][] either = {fix(0, 0), fix(2, 0), fix(2, 0), fix(0, 0)};
        greatest(Flights.flight(100, either), along(either, 0, 1, 3), 1);
        // two pairs of corners, each the least
        double[][] pairs = {fix(0, 0), fix(0, 2), fix(0, 2), fix(0, -2), fix(0, -2), fix(0, 2), fix(0, 2), fix(0, 0)};
        greatest(Flights.flight(100, pairs), along(pairs, 0, 1, 3, 5, 7), 1, 3, 5);
    }

    private static void bestLeastOthers() {
        Check.about("Terms 5", "the greatest G(k, last), of the least k of several");
        // on a meridian, by numbers whose WAYS are exact sums
        double[][] straight = {fix(0, 0), fix(0, 1), fix(0, 2), fix(0, 4)};
        double whole = way(straight[0], straight[3]);
        Check.due("the sums are equal", Check.bits(along(straight, 0, 1, 2, 3)), Check.bits(whole));
        greatest(Flights.flight(100, straight), whole);
        double[][] back = {fix(0, 0), fix(0, 1), fix(0, 2), fix(0, 4), fix(0, 2), fix(0, 0)};
        double turned = along(back, 0, 3, 5);
        Check.due("the sums are equal", Check.bits(along(back, 0, 1, 3, 4, 5)), Check.bits(turned));
        greatest(Flights.flight(100, back), turned, 3);
    }

    private static void bestZeroLegs() {
        Check.about("Terms 5", "i below j and above the first");
        double[][] same = {fix(5, 5), fix(5, 5), fix(5, 5), fix(5, 5)};
        greatest(Flights.flight(100, same), 0.0);
        // the last one is no corner of its own, nor is the first
        double[][] ends = {fix(0, 0), fix(0, 1), fix(0, 3)};
        GliderHouse x = Flights.flight(100, ends);
        x.best(0);
        Check.yes("neither 0 nor 2", x.corner(0) != 0 && x.corner(0) != 2);
    }

    private static void bestShortLegs() {
        Check.about("Terms 5", "G(k, j) the greatest of G(k - 1, i) + WAY(i, j)");
        // legs of half a metre, of less than a hair, and of the least that has a WAY
        double[] norths = {5e-6, 1e-10, 1e-150};
        for (double north : norths) {
            double[][] fixes = {fix(0, 0), fix(0, north), fix(0, -north), fix(0, north)};
            greatest(Flights.flight(100, fixes), along(fixes, 0, 1, 2, 3), 1, 2);
        }
        // a longer flight ahead of it leaves nothing behind
        double[][] far = {fix(0, 0), fix(0, 3), fix(0, -3), fix(0, 3)};
        GliderHouse x = Flights.flight(100, far);
        greatest(x, along(far, 0, 1, 2, 3), 1, 2);
        double[][] near = {fix(0, 0), fix(0, 1), fix(0, -1), fix(0, 1)};
        for (int i = 0; i < near.length; i++) {
            Flights.put(x, i, near[i]);
        }
        x.read(0);
        greatest(x, along(near, 0, 1, 2, 3), 1, 2);
    }

    private static void bestRefused() {
        Check.about("Promise 33", "Bits of THE GREATEST WAY. Likewise");
        GliderHouse x = Flights.flight(10, fix(0, 0), fix(1, 1), fix(0, 0));
        x.recorder(0, 0);
        x.best(0);
        int[] unknown = {-1, 2, 8, Integer.MIN_VALUE};
        for (int r : unknown) {
            Check.refusedAs(x, "best(" + r + ")", x.best(r), 0, GliderHouse.UNKNOWN);
        }
        Check.refusedAs(x, "not READ", x.best(1), 0, GliderHouse.STATE);
        Check.due("CORNERS stay", x.corner(0), 1);
    }

    private static void cornersAtTheirEnds() {
        Check.about("Promise 34", "READING of CORNER k of the latest best(); NONE");
        GliderHouse x = Flights.flight(100, fix(181, 0), fix(0, 0), fix(0, 4), fix(0, 0), fix(0, 5), fix(0, 0), fix(0, 3));
        Check.due("before any best()", x.corner(0), GliderHouse.NONE);
        x.best(0);
        for (int k = 0; k < 4; k++) {
            Check.due("corner(" + k + "), a READING's number", x.corner(k), k + 2);
        }
        int[] none = {-1, 4, 5, Integer.MIN_VALUE, Integer.MAX_VALUE};
        for (int k : none) {
            Check.due("corner(" + k + ")", x.corner(k), GliderHouse.NONE);
        }
    }

    private static void cornersOfTheLatest() {
        Check.about("Promise 34", "of the latest best()");
        GliderHouse x = Flights.flight(100, fix(0, 0), fix(0, 4), fix(0, 0), fix(0, 5));
        x.trace();
        x.fly(1, 2, 10, 0, Check.bits(0.001), 0);
        x.recorder(0, 1);
        x.read(1);
        x.best(0);
        Check.due("corner(1)", x.corner(1), 2);
        x.bound(1);
        x.read(0);
        Check.due("bound() and read() leave them", x.corner(1), 2);
        x.best(1);
        Check.due("the other one has none", x.corner(0), GliderHouse.NONE);
        x.bound(0);
        Check.due("and bound() brings none", x.corner(0), GliderHouse.NONE);
        x.best(0);
        Check.due("there again", x.corner(1), 2);
        x.row(1, 0, Flights.MOMENTS, 1);
        x.read(1);
        x.best(1);
        Check.due("of one fix there are none", x.corner(0), GliderHouse.NONE);
        x.best(0);
        x.row(1, 0, Flights.MOMENTS, 0);
        x.read(1);
        x.best(1);
        Check.due("nor of no fix", x.corner(0), GliderHouse.NONE);
    }

    private static double five(double w) {
        return w + w + w + w + w;
    }

    private static void boundAtSixty() {
        Check.about("Terms 5", "BOUND: with 60 at most it");
        int[] counts = {0, 1, 2, 59, 60};
        for (int n : counts) {
            GliderHouse x = Flights.flight(100, mostlyNear(n, n > 1 ? new int[] {n / 2} : new int[0]));
            long bound = x.bound(0);
            Check.due("status()", x.status(), 0);
            Check.due("bound of " + n, bound, x.best(0));
        }
    }

    private static void boundOfSixtyOne() {
        Check.about("Terms 5", "else W + W + W + W + W, W the greatest WAY of two KEPT");
        double[][] fixes = mostlyNear(61, 31);
        Check.due("of two KEPT, chosen or not", Flights.flight(100, fixes).bound(0), Check.bits(five(widest(fixes))));
        double[][] ends = mostlyNear(61);
        Check.due("of the first and the last", Flights.flight(100, ends).bound(0), Check.bits(five(way(ends[0], ends[60]))));
        double[][] same = new double[61][];
        for (int i = 0; i < 61; i++) {
            same[i] = fix(5, 5);
        }
        Check.due("all in one place", Flights.flight(100, same).bound(0), 0);
        double[][] all = mostlyNear(192, 190, 191);
        all[190] = fix(100, -80);
        all[191] = fix(-100, 80);
        GliderHouse x = Flights.flight(1000, all);
        Check.due("KEPT", x.reading(0, 191, 6), 1);
        Check.due("192 KEPT", x.bound(0), Check.bits(five(widest(all))));
    }

    private static double widest(double[][] fixes) {
        double w = 0;
        for (double[] a : fixes) {
            for (double[] b : fixes) {
                w = Math.max(w, way(a, b));
            }
        }
        return w;
    }

    private static void boundOfKept() {
        Check.about("Terms 5", "W the greatest WAY of two KEPT");
        double[][] fixes = mostlyNear(62, 31);
        GliderHouse x = Flights.flight(100, fixes);
        x.set(0, 1, Flights.MOMENTS, 31 - 24, 0);
        x.read(0);
        Check.due("READING 31 JUMPS", x.reading(0, 31, 6), 0);
        Check.due("it is left out", x.bound(0), Check.bits(five(way(fixes[0], fixes[61]))));
        Flights.put(x, 5, fix(181, 0));
        x.read(0);
        Check.due("60 KEPT of 62", x.bound(0), x.best(0));
    }

    private static void boundRefused() {
        Check.about("Promise 35", "Bits of BOUND. Likewise");
        GliderHouse x = Flights.flight(10, fix(0, 0));
        x.recorder(0, 0);
        int[] unknown = {-1, 2, 8, Integer.MAX_VALUE};
        for (int r : unknown) {
            Check.refusedAs(x, "bound(" + r + ")", x.bound(r), 0, GliderHouse.UNKNOWN);
        }
        Check.refusedAs(x, "not READ", x.bound(1), 0, GliderHouse.STATE);
    }
}
