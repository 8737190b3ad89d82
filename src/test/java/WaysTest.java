import java.util.Random;

/** Promises 28 and 32 to 35: WAYS, what was flown, THE GREATEST WAY, its CORNERS and BOUND. */
public final class WaysTest {
    private static final double K = 111319.49079327358;

    public static void main(String[] args) {
        ways();
        wayEdges();
        refusals();
        flown();
        few();
        straight();
        corners();
        cornersStay();
        leastOfSeveral();
        shorterBehindLonger();
        byAllPaths();
        sixty();
        bound();
        Check.end("WaysTest");
    }

    private static double c(double t) {
        double r = t * 0.017453292519943295;
        double s = r * r;
        return 1 - s * (0.5 - s * (0.041666666666666664 - s * 0.001388888888888889));
    }

    private static double way(double[] a, double[] b) {
        double m = (a[1] + b[1]) * 0.5;
        double u = (b[0] - a[0]) * c(m) * K;
        double v = (b[1] - a[1]) * K;
        return Math.sqrt(u * u + v * v);
    }

    /** A house whose RECORDER 0 was READ with these fixes, a thousand seconds apart, all KEPT. */
    private static GliderHouse house(double[]... fixes) {
        GliderHouse x = new GliderHouse();
        x.trace();
        x.setting(1, 100000);
        for (int from = 0; from < fixes.length; from += 24) {
            int n = Math.min(24, fixes.length - from);
            x.fly(0, n, 1000, 0, 0, 0);
            for (int i = 0; i < n; i++) {
                x.set(0, from / 24, 1, 2 * i, Double.doubleToRawLongBits(fixes[from + i][0]));
                x.set(0, from / 24, 1, 2 * i + 1, Double.doubleToRawLongBits(fixes[from + i][1]));
            }
        }
        x.recorder(0, 0);
        x.read(0);
        return x;
    }

    private static double[] at(double lon, double lat) {
        return new double[] {lon, lat};
    }

    private static void ways() {
        double[][] fixes = {at(10, 47), at(10.001, 47.002), at(-179.5, 89.9), at(180, -90), at(-180, 90), at(0, 0), at(-0.0, -0.0), at(1e-9, -1e-9)};
        GliderHouse x = house(fixes);
        for (int i = 0; i < fixes.length; i++) {
            for (int j = 0; j < fixes.length; j++) {
                Check.due("way " + i + " " + j, x.way(0, i, j), Check.bits(way(fixes[i], fixes[j])));
            }
        }
        Random random = new Random(5);
        for (int run = 0; run < 64; run++) {
            double[][] some = new double[120][];
            double spread = Math.pow(10, -random.nextInt(12));
            for (int i = 0; i < some.length; i++) {
                some[i] = at(180 * spread * (2 * random.nextDouble() - 1), 90 * spread * (2 * random.nextDouble() - 1));
            }
            GliderHouse y = house(some);
            for (int i = 0; i < 119; i++) {
                Check.due("way", y.way(0, i, i + 1), Check.bits(way(some[i], some[i + 1])));
            }
        }
    }

    private static void wayEdges() {
        double[][] fixes = {at(0, 0), at(0, 1e-160), at(0, 1e-162), at(0, 1e-165), at(0, 3e-167), at(0, 1e-170), at(0, Double.MIN_VALUE), at(Double.NaN, 0)};
        GliderHouse x = house(fixes);
        for (int i = 0; i < 7; i++) {
            Check.due("small way " + i, x.way(0, 0, i), Check.bits(way(fixes[0], fixes[i])));
        }
        Check.due("no fix", x.way(0, 7, 0), 0x7FF8000000000000L);
        Check.due("no fix", x.way(0, 0, 7), 0x7FF8000000000000L);
        Check.due("no fix", x.way(0, 7, 7), 0x7FF8000000000000L);
        Check.due("is no refusal", x.status(), 0);
    }

    private static void refusals() {
        GliderHouse x = house(at(0, 0), at(0, 1));
        x.recorder(0, 0);
        Check.refusedAs(x, "way UNKNOWN", x.way(2, 0, 1), 0, GliderHouse.UNKNOWN);
        Check.refusedAs(x, "way STATE", x.way(1, 7, 7), 0, GliderHouse.STATE);
        Check.refusedAs(x, "way READING", x.way(0, 2, 0), 0, GliderHouse.UNKNOWN);
        Check.refusedAs(x, "way READING", x.way(0, 0, -1), 0, GliderHouse.UNKNOWN);
        Check.refusedAs(x, "flown UNKNOWN", x.flown(-1), 0, GliderHouse.UNKNOWN);
        Check.refusedAs(x, "flown STATE", x.flown(1), 0, GliderHouse.STATE);
        Check.refusedAs(x, "best UNKNOWN", x.best(2), 0, GliderHouse.UNKNOWN);
        Check.refusedAs(x, "best STATE", x.best(1), 0, GliderHouse.STATE);
        Check.refusedAs(x, "bound UNKNOWN", x.bound(2), 0, GliderHouse.UNKNOWN);
        Check.refusedAs(x, "bound STATE", x.bound(1), 0, GliderHouse.STATE);
        x.corner(0);
        Check.due("corner() leaves STATUS", x.status(), GliderHouse.STATE);
    }

    private static void flown() {
        double[][] fixes = {at(10, 47), at(10.1, 47.3), at(Double.NaN, 0), at(10.7, 46.9), at(10, 47)};
        GliderHouse x = house(fixes);
        double sum = 0;
        sum += way(fixes[0], fixes[1]);
        sum += way(fixes[1], fixes[3]);
        sum += way(fixes[3], fixes[4]);
        Check.due("flown", x.flown(0), Check.bits(sum));
        x.set(0, 0, 0, 3, 2000);
        x.read(0);
        Check.due("without what JUMPS", x.flown(0), Check.bits(way(fixes[0], fixes[1]) + way(fixes[1], fixes[4])));
        Check.due("status", x.status(), 0);
    }

    private static void greatest(GliderHouse x, double want, int... corners) {
        Check.due("best", x.best(0), Check.bits(want));
        for (int k = 0; k < corners.length; k++) {
            Check.due("corner(" + k + ")", x.corner(k), corners[k]);
        }
        Check.due("corner behind", x.corner(corners.length), GliderHouse.NONE);
        Check.due("corner(-1)", x.corner(-1), GliderHouse.NONE);
    }

    private static void few() {
        greatest(house(), 0.0);
        greatest(house(at(5, 5)), 0.0);
        greatest(house(at(5, 5), at(Double.NaN, 5)), 0.0);
        Check.due("flown", house(at(5, 5)).flown(0), 0);
        Check.due("bound", house(at(5, 5)).bound(0), 0);
        double[][] two = {at(5, 5), at(5, 6)};
        greatest(house(two), way(two[0], two[1]));
        double[][] same = {at(5, 5), at(5, 5), at(5, 5)};
        greatest(house(same), 0.0);
    }

    private static void straight() {
        double[][] fixes = {at(0, 0), at(0, 1), at(0, 3)};
        GliderHouse x = house(fixes);
        double by = way(fixes[0], fixes[1]) + way(fixes[1], fixes[2]);
        double right = way(fixes[0], fixes[2]);
        if (by > right) {
            greatest(x, by, 1);
        } else {
            greatest(x, right);
        }
    }

    private static void corners() {
        double[][] fixes = {at(0, 0), at(0, 1), at(0, 10), at(0, 9), at(0, 0), at(0, 2), at(0, 10), at(0, 1), at(0, 12), at(0, 0), at(0, 3)};
        GliderHouse x = house(fixes);
        double sum = way(fixes[0], fixes[2]) + way(fixes[2], fixes[4]) + way(fixes[4], fixes[6]);
        sum = way(fixes[0], fixes[2]);
        // the four best: 10, 0, 12, 0 and on to 3
        sum = sum + way(fixes[2], fixes[4]);
        sum = sum + way(fixes[4], fixes[8]);
        sum = sum + way(fixes[8], fixes[9]);
        sum = sum + way(fixes[9], fixes[10]);
        greatest(x, sum, 2, 4, 8, 9);
        // READINGS that are not KEPT keep their numbers
        double[][] gaps = {at(Double.NaN, 0), at(0, 0), at(Double.NaN, 0), at(0, 5), at(0, 1)};
        GliderHouse y = house(gaps);
        greatest(y, way(gaps[1], gaps[3]) + way(gaps[3], gaps[4]), 3);
    }

    private static void cornersStay() {
        double[][] fixes = {at(0, 0), at(0, 5), at(0, 1)};
        GliderHouse x = house(fixes);
        x.recorder(0, 0);
        x.best(0);
        Check.due("corner", x.corner(0), 1);
        x.best(1);
        Check.due("a refused best() leaves them", x.corner(0), 1);
        x.trace();
        x.recorder(0, 1);
        x.read(2);
        x.bound(2);
        Check.due("bound() leaves them", x.corner(0), 1);
        Check.due("best of none", x.best(2), 0);
        Check.due("its corners", x.corner(0), GliderHouse.NONE);
        x.bound(0);
        Check.due("bound() tells none", x.corner(0), GliderHouse.NONE);
    }

    private static void leastOfSeveral() {
        // two equal turn points: the least of them; and a corner that adds nothing is none
        double[][] fixes = {at(0, 0), at(0, 8), at(0, 8), at(0, 0), at(0, 0)};
        GliderHouse x = house(fixes);
        greatest(x, way(fixes[0], fixes[1]) + way(fixes[1], fixes[4]), 1);
    }

    /** What an earlier best() reckoned must not stay for a shorter flight. */
    private static void shorterBehindLonger() {
        double[][] wide = {at(0, 0), at(0, 50), at(0, -50), at(0, 50), at(0, -50), at(0, 50)};
        GliderHouse x = house(wide);
        x.trace();
        x.fly(1, 2, 1000, 0, Check.bits(0.001), 0);
        x.recorder(0, 1);
        x.read(1);
        x.best(0);
        Check.due("all corners", x.corner(3), 4);
        Check.due("best of two", x.best(1), Check.bits(way(at(0, 0.001), at(0, 0.001 + 0.001))));
        Check.due("no corner", x.corner(0), GliderHouse.NONE);
        x.fly(1, 1, 1000, 0, Check.bits(0.001), 0);
        x.read(1);
        x.best(0);
        Check.due("bound of three", x.bound(1), x.best(1));
        Check.yes("of some 222 m", Double.longBitsToDouble(x.best(1)) < 223);
    }

    /** Sums along every path of at most four others, the first of the greatest by the order of the document's choice. */
    private static void byAllPaths() {
        Random random = new Random(11);
        for (int run = 0; run < 200; run++) {
            int n = 2 + random.nextInt(9);
            double[][] fixes = new double[n][];
            for (int i = 0; i < n; i++) {
                fixes[i] = at(random.nextInt(4), random.nextInt(4));
            }
            double[] best = {-1};
            search(fixes, 0, 0.0, 0, best);
            Check.due("best of all paths", house(fixes).best(0), Check.bits(best[0]));
        }
    }

    private static void search(double[][] fixes, int at, double sum, int others, double[] best) {
        int last = fixes.length - 1;
        double whole = at == 0 ? way(fixes[0], fixes[last]) : sum + way(fixes[at], fixes[last]);
        best[0] = Math.max(best[0], whole);
        for (int i = at + 1; i < last && others < 4; i++) {
            search(fixes, i, at == 0 ? way(fixes[0], fixes[i]) : sum + way(fixes[at], fixes[i]), others + 1, best);
        }
    }

    private static double[][] wave(int n) {
        double[][] fixes = new double[n][];
        for (int i = 0; i < n; i++) {
            fixes[i] = at(0.01 * i, i == 59 || i == 60 || i == 118 ? 3 : 0.001 * i);
        }
        return fixes;
    }

    private static double longest(double[][] all, int each) {
        double[][] some = new double[(all.length + each - 1) / each][];
        for (int i = 0; i < some.length; i++) {
            some[i] = all[i * each];
        }
        int n = some.length;
        double[][] g = new double[5][n];
        for (int k = 0; k < 5; k++) {
            for (int j = 1; j < n; j++) {
                g[k][j] = k == 0 ? way(some[0], some[j]) : -1;
                for (int i = 1; i < j && k > 0; i++) {
                    g[k][j] = g[k - 1][i] < 0 ? g[k][j] : Math.max(g[k][j], g[k - 1][i] + way(some[i], some[j]));
                }
            }
        }
        double best = 0;
        for (int k = 0; k < 5; k++) {
            best = Math.max(best, g[k][n - 1]);
        }
        return best;
    }

    private static void sixty() {
        int[] counts = {59, 60, 61, 119, 120, 121, 180, 181, 192};
        int[] each = {1, 1, 2, 2, 2, 3, 3, 4, 4};
        for (int i = 0; i < counts.length; i++) {
            double[][] fixes = wave(counts[i]);
            GliderHouse x = house(fixes);
            Check.due("best of " + counts[i], x.best(0), Check.bits(longest(fixes, each[i])));
        }
        GliderHouse x = house(wave(61));
        x.best(0);
        Check.due("no corner: READING 59 is not chosen, 60 is the last", x.corner(0) == 59 ? 1 : 0, 0);
    }

    private static void bound() {
        double[][] sixty = wave(60);
        GliderHouse x = house(sixty);
        Check.due("60: THE GREATEST WAY", x.bound(0), x.best(0));
        int[] counts = {61, 120, 192};
        for (int n : counts) {
            double[][] fixes = wave(n);
            double w = 0;
            for (double[] a : fixes) {
                for (double[] b : fixes) {
                    w = Math.max(w, way(a, b));
                }
            }
            Check.due("bound of " + n, house(fixes).bound(0), Check.bits(w + w + w + w + w));
        }
        double[][] spread = new double[61][];
        for (int i = 0; i < 61; i++) {
            spread[i] = at(0, i == 30 ? 40 : i == 31 ? -40 : 0.01 * i);
        }
        double side = way(spread[30], spread[31]);
        Check.due("two that follow each other", house(spread).bound(0), Check.bits(side + side + side + side + side));
        GliderHouse y = house(wave(61));
        y.set(0, 1, 1, 0, Check.bits(Double.NaN));
        y.read(0);
        Check.due("KEPT ones count", y.bound(0), y.best(0));
    }
}
