/** Promises 36 to 40: POINTS of a TASK, how they are REACHED, the TASK's WAY. */
public final class TasksTest {
    private static final double K = 111319.49079327358;
    private static final int LINE = 0, CYLINDER = 1, SECTOR = 2;

    public static void main(String[] args) {
        points();
        pointEdges();
        refusals();
        cylinders();
        cylinderCrossed();
        sectors();
        sectorCrossed();
        lines();
        lineCrossed();
        obliqueLines();
        onTheLine();
        onTheBorder();
        order();
        gap();
        onlyKept();
        latestStays();
        Check.end("TasksTest");
    }

    private static GliderHouse house(double[]... fixes) {
        GliderHouse x = new GliderHouse();
        x.trace();
        x.setting(1, 100000);
        x.fly(0, fixes.length, 50, 0, 0, 0);
        for (int i = 0; i < fixes.length; i++) {
            x.set(0, 0, 1, 2 * i, Double.doubleToRawLongBits(fixes[i][0]));
            x.set(0, 0, 1, 2 * i + 1, Double.doubleToRawLongBits(fixes[i][1]));
        }
        x.recorder(0, 0);
        x.read(0);
        return x;
    }

    private static double[] at(double lon, double lat) {
        return new double[] {lon, lat};
    }

    private static int round(GliderHouse x, int kind, double lon, double lat, long radius, long quarter) {
        return x.point(kind, Check.bits(lon), Check.bits(lat), radius, quarter);
    }

    private static int line(GliderHouse x, double lon, double lat, double endLon, double endLat) {
        return x.point(LINE, Check.bits(lon), Check.bits(lat), Check.bits(endLon), Check.bits(endLat));
    }

    private static void reaches(GliderHouse x, long... moments) {
        Check.due("task", x.task(0), moments.length);
        Check.due("status", x.status(), 0);
        for (int k = 0; k < moments.length; k++) {
            Check.due("reached(" + k + ")", x.reached(k), moments[k]);
        }
        Check.due("reached behind", x.reached(moments.length), GliderHouse.NONE);
        Check.due("reached(-1)", x.reached(-1), GliderHouse.NONE);
    }

    private static void points() {
        GliderHouse x = new GliderHouse();
        Check.due("clearTask", x.clearTask(), 0);
        for (int i = 1; i <= 6; i++) {
            Check.due("point", round(x, i % 2 + 1, 0, 0, 5, 3), i);
            Check.due("count(2)", x.count(2), i);
        }
        Check.refused(x, "FULL", round(x, CYLINDER, 0, 0, 5, 0), GliderHouse.FULL);
        Check.refused(x, "OUTSIDE ahead of FULL", round(x, CYLINDER, 0, 0, 0, 0), GliderHouse.OUTSIDE);
        Check.due("clearTask", x.clearTask(), 6);
        Check.due("status", x.status(), 0);
        Check.due("count(2)", x.count(2), 0);
        Check.due("point", line(x, 0, 0, 1, 1), 1);
    }

    private static void pointEdges() {
        GliderHouse x = new GliderHouse();
        Check.refused(x, "kind -1", round(x, -1, 0, 0, 5, 0), GliderHouse.OUTSIDE);
        Check.refused(x, "kind 3", round(x, 3, 0, 0, 5, 0), GliderHouse.OUTSIDE);
        Check.refused(x, "radius 0", round(x, CYLINDER, 0, 0, 0, 0), GliderHouse.OUTSIDE);
        Check.refused(x, "radius above", round(x, SECTOR, 0, 0, 1000001, 0), GliderHouse.OUTSIDE);
        Check.refused(x, "radius far above", round(x, CYLINDER, 0, 0, 1L << 32 | 5, 0), GliderHouse.OUTSIDE);
        Check.refused(x, "quarter -1", round(x, SECTOR, 0, 0, 5, -1), GliderHouse.OUTSIDE);
        Check.refused(x, "quarter 4", round(x, SECTOR, 0, 0, 5, 4), GliderHouse.OUTSIDE);
        Check.refused(x, "quarter far above", round(x, SECTOR, 0, 0, 5, 1L << 32), GliderHouse.OUTSIDE);
        double[] wrong = {Math.nextUp(180.0), -Math.nextUp(180.0), Double.NaN, Double.POSITIVE_INFINITY};
        for (double w : wrong) {
            Check.refused(x, "longitude", round(x, CYLINDER, w, 0, 5, 0), GliderHouse.OUTSIDE);
            Check.refused(x, "latitude", round(x, SECTOR, 0, w, 5, 0), GliderHouse.OUTSIDE);
            Check.refused(x, "longitude", line(x, w, 0, 1, 1), GliderHouse.OUTSIDE);
            Check.refused(x, "end's longitude", line(x, 0, 0, w, 1), GliderHouse.OUTSIDE);
            Check.refused(x, "end's latitude", line(x, 0, 0, 1, w), GliderHouse.OUTSIDE);
        }
        Check.refused(x, "latitude", round(x, CYLINDER, 0, Math.nextUp(90.0), 5, 0), GliderHouse.OUTSIDE);
        Check.refused(x, "end's latitude", line(x, 0, 0, 1, -Math.nextUp(90.0)), GliderHouse.OUTSIDE);
        Check.refused(x, "no LINE", line(x, 5, 5, 5, 5), GliderHouse.OUTSIDE);
        Check.refused(x, "u u + v v is 0", line(x, 0, 0, 1e-170, 0), GliderHouse.OUTSIDE);
        Check.due("count(2)", x.count(2), 0);
        Check.due("least radius", round(x, CYLINDER, 180, 90, 1, Long.MIN_VALUE), 1);
        Check.due("most radius", round(x, SECTOR, -180, -90, 1000000, 3), 2);
        Check.due("LINE", line(x, 180, 90, -180, -90), 3);
        Check.due("short LINE", line(x, 0, 0, 0, 1e-100), 4);
    }

    private static void refusals() {
        GliderHouse x = house(at(0, 0));
        x.recorder(0, 0);
        Check.refused(x, "task UNKNOWN", x.task(2), GliderHouse.UNKNOWN);
        Check.refused(x, "task STATE", x.task(1), GliderHouse.STATE);
        x.reached(0);
        x.taskWay();
        Check.due("they leave STATUS", x.status(), GliderHouse.STATE);
        reaches(x);
        Check.due("no POINTS", x.taskWay(), 0);
    }

    private static void cylinders() {
        GliderHouse x = house(at(1, 0), at(0.5, 0), at(0.01, 0), at(0, 0));
        round(x, CYLINDER, 0, 0, 1113, 0);
        // 0.01 degrees are 1113.19 m; the last two fixes are nearest at the later one
        reaches(x, 200);
        x.clearTask();
        round(x, CYLINDER, 0, 0, 1114, 0);
        // by the two ahead of the fix that lies in it, nearest at the later one, too
        reaches(x, 150);
        GliderHouse y = house(at(0, 0.25), at(0, 0));
        y.point(CYLINDER, Check.bits(0.0), Check.bits(0.0), 27829, 0);
        Check.due("27829.87 m", y.reached(0), GliderHouse.NONE);
        reaches(y, 100);
        y.clearTask();
        round(y, CYLINDER, 0, 0, 27830, 0);
        reaches(y, 50);
        GliderHouse z = house(at(10, 60), at(10, 61));
        round(z, CYLINDER, 11, 60, 60000, 0);
        reaches(z, 50);
        z.clearTask();
        round(z, CYLINDER, 11, 60, 55000, 0);
        reaches(z);
    }

    private static void cylinderCrossed() {
        // from (-1, 0.1) to (1, 0.1) past (0, 0): nearest in the midst
        GliderHouse x = house(at(-1, 0.1), at(1, 0.1));
        round(x, CYLINDER, 0, 0, 11132, 0);
        reaches(x, 75);
        x.clearTask();
        round(x, CYLINDER, 0, 0, 11131, 0);
        reaches(x);
        x.clearTask();
        round(x, CYLINDER, -0.88, 0.1, 10, 0);
        reaches(x, 53);
        x.clearTask();
        round(x, CYLINDER, 3, 0.1, 10, 0);
        reaches(x);
        GliderHouse still = house(at(1, 0), at(1, 0));
        round(still, CYLINDER, 0, 0, 10, 0);
        reaches(still);
    }

    private static void sectors() {
        double[][] corners = {at(0.1, 0.1), at(-0.1, 0.1), at(-0.1, -0.1), at(0.1, -0.1)};
        for (int quarter = 0; quarter < 4; quarter++) {
            for (int i = 0; i < 4; i++) {
                GliderHouse x = house(corners[i]);
                round(x, SECTOR, 0, 0, 100000, quarter);
                if (i == quarter) {
                    reaches(x, 50);
                } else {
                    reaches(x);
                }
                x.clearTask();
                round(x, SECTOR, 0, 0, 10000, quarter);
                reaches(x);
            }
            GliderHouse middle = house(at(0, 0));
            round(middle, SECTOR, 0, 0, 1, quarter);
            reaches(middle, 50);
            GliderHouse edge = house(corners[quarter][0] > 0 ? at(0.1, 0) : at(-0.1, 0));
            round(edge, SECTOR, 0, 0, 100000, quarter);
            reaches(edge, 50);
        }
    }

    private static void sectorCrossed() {
        // from (-1, 0.1) to (1, 0.1): quarter 0 from its edge on, quarter 1 up to it, quarters 2 and 3 never
        for (int quarter = 0; quarter < 4; quarter++) {
            GliderHouse x = house(at(-1, 0.1), at(1, 0.1));
            round(x, SECTOR, 0.5, 0, 20000, quarter);
            if (quarter < 2) {
                reaches(x, 50 + (long) Math.floor(0.75 * 50 + 0.5));
            } else {
                reaches(x);
            }
        }
        // nearest is outside of the quarter: the edge counts
        GliderHouse x = house(at(-1, -0.1), at(1, 0.3));
        round(x, SECTOR, 0, 0, 12000, 0);
        reaches(x, 75);
        x.clearTask();
        round(x, SECTOR, 0, 0, 11000, 0);
        reaches(x);
        // v rises through 0 behind the place where u falls through it: low is above high
        GliderHouse y = house(at(0.2, -1), at(-1, 1));
        round(y, SECTOR, 0, 0, 1000000, 0);
        reaches(y);
        y.clearTask();
        round(y, SECTOR, 0, 0, 1000000, 2);
        // from 1 / 6 to 1 / 2; nearest at 2.24 / 5.44
        reaches(y, 71);
        // the mirrored ways of quarters 1 to 3
        double[][] turned = {at(1, 1), at(-1, 1), at(-1, -1), at(1, -1)};
        for (int quarter = 0; quarter < 4; quarter++) {
            double e = turned[quarter][0];
            double n = turned[quarter][1];
            GliderHouse w = house(at(-e, -0.1 * n), at(e, 0.3 * n));
            round(w, SECTOR, 0, 0, 12000, quarter);
            reaches(w, 75);
            w.clearTask();
            round(w, SECTOR, 0, 0, 11000, quarter);
            reaches(w);
            GliderHouse away = house(at(0.2 * e, 0.1 * n), at(-e, 0.1 * n));
            round(away, SECTOR, 0, 0, 12000, quarter);
            reaches(away, 50 + (long) Math.floor(0.2 / 1.2 * 50 + 0.5));
            // just through the apex: low is high
            GliderHouse apex = house(at(-e, n), at(e, -n));
            round(apex, SECTOR, 0, 0, 1, quarter);
            reaches(apex, 75);
        }
        GliderHouse z = house(at(-0.1, 0.1), at(-0.1, 0.3));
        round(z, SECTOR, 0, 0, 1000000, 0);
        reaches(z);
        z.clearTask();
        round(z, SECTOR, -0.1, 0.2, 1000, 0);
        reaches(z, 75);
    }

    private static void lines() {
        GliderHouse x = house(at(0.5, 0.5), at(0.5, 0.6));
        line(x, 0.5, 0, 0.5, 0.5);
        reaches(x, 50);
        x.clearTask();
        line(x, 0.5, 0, 0.5, 0.49);
        reaches(x);
        x.clearTask();
        line(x, 0.5, 0.5, 0.5, 0);
        reaches(x, 50);
        x.clearTask();
        line(x, 0.5, 0.55, 0.5, 0.7);
        reaches(x, 100);
        x.clearTask();
        line(x, 0.5, 0.61, 0.5, 0.7);
        reaches(x);
    }

    private static void lineCrossed() {
        GliderHouse x = house(at(-1, 0), at(3, 0));
        line(x, 0, -1, 0, 1);
        reaches(x, 50 + (long) Math.floor(0.25 * 50 + 0.5));
        x.clearTask();
        line(x, 0, 1, 0, -1);
        reaches(x, 50 + (long) Math.floor(0.25 * 50 + 0.5));
        x.clearTask();
        line(x, 0, 0.1, 0, 1);
        reaches(x);
        x.clearTask();
        line(x, 0, -1, 0, -0.1);
        reaches(x);
        x.clearTask();
        line(x, 0, 0, 0, 1);
        reaches(x, 63);
        x.clearTask();
        line(x, 3.1, -1, 3.1, 1);
        reaches(x);
        x.clearTask();
        line(x, -1.1, -1, -1.1, 1);
        reaches(x);
        // its end is on it, but the fix alone is not: e is 0
        x.clearTask();
        line(x, 3, -1, 3, 1);
        reaches(x, 100);
        // along it: both 0, no crossing
        GliderHouse along = house(at(0, -2), at(0, 2));
        line(along, 0, -1, 0, 1);
        reaches(along);
    }

    /** U and V both count, and so do all signs of both. */
    private static void obliqueLines() {
        int[] signs = {-1, 1};
        for (int e : signs) {
            for (int n : signs) {
                // from (0.1, 0) to (0.5, 0.2): y = (x - 0.1) / 2; flown along y = 0.1 from x 0 to x 1: met at x 0.3
                GliderHouse x = house(at(0, 0.1 * n), at(1.0 * e, 0.1 * n));
                line(x, 0.1 * e, 0, 0.5 * e, 0.2 * n);
                reaches(x, 65);
                x.clearTask();
                line(x, 0.5 * e, 0.2 * n, 0.1 * e, 0);
                reaches(x, 65);
                x.clearTask();
                // it ends at (0.28, 0.09), begins at (0.32, 0.11)
                line(x, 0.1 * e, 0, 0.28 * e, 0.09 * n);
                reaches(x);
                x.clearTask();
                line(x, 0.32 * e, 0.11 * n, 0.5 * e, 0.2 * n);
                reaches(x);
                // flown from south to north along x = 0.2: met at y 0.05
                GliderHouse y = house(at(0.2 * e, -0.1 * n), at(0.2 * e, 0.4 * n));
                line(y, 0.1 * e, 0, 0.28 * e, 0.09 * n);
                reaches(y, 65);
                GliderHouse on = house(at(0.25 * e, 0.25 * n));
                line(on, 0, 0, 0.5 * e, 0.5 * n);
                reaches(on, 50);
                GliderHouse off = house(at(0.25 * e, -0.25 * n));
                line(off, 0, 0, 0.5 * e, 0.5 * n);
                reaches(off);
            }
        }
        // an end with U alone, and fixes on it
        GliderHouse x = house(at(0.3, 0), at(0.6, 0));
        line(x, 0, 0, 0.4, 0);
        reaches(x, 50);
        x.clearTask();
        line(x, 0.5, 0, 0.7, 0);
        reaches(x, 100);
        x.clearTask();
        line(x, 0.7, 0, 0.5, 0);
        reaches(x, 100);
        x.clearTask();
        line(x, 0.4, 0, 0.5, 0);
        reaches(x);
    }

    /** One of two fixes is on the LINE: they CROSS it, too, which shows when the same LINE is wanted again. */
    private static void onTheLine() {
        double[] sides = {-1, 1};
        for (double side : sides) {
            GliderHouse to = house(at(side, 0), at(0, 0));
            line(to, 0, -1, 0, 1);
            line(to, 0, -1, 0, 1);
            reaches(to, 100, 100);
            GliderHouse from = house(at(0, 0), at(side, 0));
            line(from, 0, -1, 0, 1);
            line(from, 0, -1, 0, 1);
            reaches(from, 50, 50);
        }
    }

    /** A fix whose distance is the radius to the last bit lies in it. */
    private static void onTheBorder() {
        boolean told = false;
        for (int radius = 1000; radius < 2000 && !told; radius++) {
            double lat = radius / K;
            told = lat * K == radius;
            if (told) {
                GliderHouse x = house(at(0, lat));
                round(x, CYLINDER, 0, 0, radius, 0);
                reaches(x, 50);
                GliderHouse y = house(at(0, lat * 2), at(0, lat));
                round(y, SECTOR, 0, 0, radius, 0);
                round(y, CYLINDER, 0, 0, radius, 0);
                reaches(y, 100, 100);
            }
        }
        Check.yes("there is such a radius", told);
    }

    private static void order() {
        // reached by a fix: the next POINT is asked from that fix and the next one on, not by that fix alone
        GliderHouse x = house(at(0, 0), at(0.5, 0), at(1, 0));
        round(x, CYLINDER, 0, 0, 100, 0);
        round(x, CYLINDER, 0, 0, 100, 0);
        reaches(x, 50, 50);
        GliderHouse alone = house(at(0, 0));
        round(alone, CYLINDER, 0, 0, 100, 0);
        round(alone, CYLINDER, 0, 0, 100, 0);
        reaches(alone, 50);
        Check.due("one POINT has no WAY", alone.taskWay(), 0);
        // reached by two: the later fix is asked alone first, and the two are not asked again
        GliderHouse y = house(at(-1, 0), at(1, 0), at(2, 0));
        round(y, CYLINDER, 0, 0, 100, 0);
        round(y, CYLINDER, 0.5, 0, 100, 0);
        reaches(y, 75);
        y.clearTask();
        round(y, CYLINDER, 0, 0, 100, 0);
        round(y, CYLINDER, 1, 0, 100, 0);
        round(y, CYLINDER, 1.5, 0, 100, 0);
        round(y, CYLINDER, 2, 0, 100, 0);
        reaches(y, 75, 100, 125, 150);
        double sum = 0.0;
        sum += way(0, 1);
        sum += way(1, 1.5);
        sum += way(1.5, 2);
        Check.due("taskWay", y.taskWay(), Check.bits(sum));
        // the order is kept: a POINT that is reached too early only is not
        y.clearTask();
        round(y, CYLINDER, 2, 0, 100, 0);
        round(y, CYLINDER, 0, 0, 100, 0);
        reaches(y, 150);
        // by a fix, then by that fix and the next one
        y.clearTask();
        round(y, CYLINDER, 1, 0, 100, 0);
        round(y, CYLINDER, 1.5, 0, 100, 0);
        reaches(y, 100, 125);
        Check.due("taskWay", y.taskWay(), Check.bits(0.0 + way(1, 1.5)));
    }

    private static double way(double from, double to) {
        double u = (to - from) * K;
        return Math.sqrt(u * u);
    }

    private static void gap() {
        GliderHouse x = house(at(-1, 0), at(1, 0));
        round(x, CYLINDER, 0, 0, 100, 0);
        x.setting(0, 49);
        reaches(x);
        x.setting(0, 50);
        reaches(x, 75);
    }

    private static void onlyKept() {
        GliderHouse x = house(at(-1, 0), at(0, 0), at(1, 0));
        x.set(0, 0, 0, 1, 50);
        x.read(0);
        round(x, CYLINDER, 0, 0, 100, 0);
        x.setting(0, 100);
        reaches(x, 100);
        x.set(0, 0, 1, 2, Check.bits(Double.NaN));
        x.read(0);
        reaches(x, 100);
    }

    private static void latestStays() {
        GliderHouse x = house(at(0, 0), at(1, 0));
        x.recorder(0, 0);
        round(x, CYLINDER, 0, 0, 100, 0);
        round(x, CYLINDER, 1, 0, 100, 0);
        reaches(x, 50, 100);
        long way = x.taskWay();
        x.task(1);
        x.clearTask();
        Check.due("reached", x.reached(1), 100);
        Check.due("taskWay", x.taskWay(), way);
        reaches(x);
        Check.due("taskWay", x.taskWay(), 0);
    }
}
