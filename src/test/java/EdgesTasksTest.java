/** The edges of TASKS (part 4 of "Terms") and of promises 36 to 40. */
public final class EdgesTasksTest {
    private static final int LINE = 0, CYLINDER = 1, SECTOR = 2;
    private static final int[] EAST = {1, -1, -1, 1}, NORTH = {1, 1, -1, -1};

    public static void main(String[] args) {
        pointsAtTheirEnds();
        pointKinds();
        pointFixes();
        pointRadius();
        pointQuarter();
        lineWithoutLength();
        pointsFull();
        taskCleared();
        cylinderBorder();
        cylinderBorderCrossed();
        cylinderAllRound();
        cylinderStanding();
        sectorQuarters();
        sectorEdges();
        sectorJustOutside();
        sectorCrossedAtItsEdge();
        sectorLowAboveHigh();
        sectorAlongItsEdge();
        sectorAskedAgain();
        lineEnds();
        lineJustOutside();
        lineCrossedAtItsEnds();
        lineTouched();
        lineAlong();
        gapBetween();
        gapOfOneFix();
        momentRounded();
        reachedByAFix();
        reachedByTwo();
        reachedInOrder();
        reachedByTheLast();
        reachedOfNothing();
        reachedByKept();
        taskRefused();
        reachedAtItsEnds();
        taskWays();
        Check.end("EdgesTasksTest");
    }

    private static double[] fix(double longitude, double latitude) {
        return Flights.fix(longitude, latitude);
    }

    private static int round(GliderHouse x, int kind, double longitude, double latitude, long radius, long quarter) {
        return x.point(kind, Check.bits(longitude), Check.bits(latitude), radius, quarter);
    }

    private static int line(GliderHouse x, double longitude, double latitude, double endLongitude, double endLatitude) {
        return x.point(LINE, Check.bits(longitude), Check.bits(latitude), Check.bits(endLongitude), Check.bits(endLatitude));
    }

    private static void reaches(GliderHouse x, long... moments) {
        Check.due("task(0)", x.task(0), moments.length);
        Check.due("status()", x.status(), 0);
        for (int k = 0; k < moments.length; k++) {
            Check.due("reached(" + k + ")", x.reached(k), moments[k]);
        }
        Check.due("reached(" + moments.length + ")", x.reached(moments.length), GliderHouse.NONE);
    }

    private static void pointsAtTheirEnds() {
        Check.about("Promise 36", "of a CYLINDER, SECTOR a is the radius (1 .. 1000000), of a SECTOR b its quarter: how many");
        GliderHouse x = new GliderHouse();
        Check.due("a CYLINDER", round(x, CYLINDER, -180, -90, 1, 0), 1);
        Check.due("a CYLINDER", round(x, CYLINDER, 180, 90, 1000000, Long.MAX_VALUE), 2);
        Check.due("a SECTOR", round(x, SECTOR, -0.0, 0, 1, 0), 3);
        Check.due("a SECTOR", round(x, SECTOR, 180, -90, 1000000, 3), 4);
        Check.due("a LINE", line(x, -180, 90, 180, -90), 5);
        Check.due("a LINE", line(x, 0, 0, -0.0, 1e-150), 6);
        Check.due("status()", x.status(), 0);
    }

    private static void pointKinds() {
        Check.about("Promise 36", "OUTSIDE: kind, fixes (as here()), radius, quarter");
        GliderHouse x = new GliderHouse();
        int[] kinds = {-1, 3, Integer.MIN_VALUE, Integer.MAX_VALUE};
        for (int kind : kinds) {
            Check.refused(x, "kind " + kind, round(x, kind, 0, 0, 5, 0), GliderHouse.OUTSIDE);
        }
        Check.due("count(2)", x.count(2), 0);
    }

    private static void pointFixes() {
        Check.about("Promise 36", "OUTSIDE: kind, fixes (as here()), radius, quarter");
        GliderHouse x = new GliderHouse();
        double[] longitudes = {Math.nextUp(180.0), Math.nextDown(-180.0), Double.NaN, Double.POSITIVE_INFINITY, Double.NEGATIVE_INFINITY};
        double[] latitudes = {Math.nextUp(90.0), Math.nextDown(-90.0), Double.NaN, Double.POSITIVE_INFINITY, Double.NEGATIVE_INFINITY};
        for (int i = 0; i < 5; i++) {
            for (int kind = CYLINDER; kind <= SECTOR; kind++) {
                Check.refused(x, "longitude", round(x, kind, longitudes[i], 0, 5, 0), GliderHouse.OUTSIDE);
                Check.refused(x, "latitude", round(x, kind, 0, latitudes[i], 5, 0), GliderHouse.OUTSIDE);
            }
            Check.refused(x, "a LINE's longitude", line(x, longitudes[i], 0, 1, 1), GliderHouse.OUTSIDE);
            Check.refused(x, "a LINE's latitude", line(x, 0, latitudes[i], 1, 1), GliderHouse.OUTSIDE);
            Check.refused(x, "its end's longitude", line(x, 0, 0, longitudes[i], 1), GliderHouse.OUTSIDE);
            Check.refused(x, "its end's latitude", line(x, 0, 0, 1, latitudes[i]), GliderHouse.OUTSIDE);
        }
        Check.refused(x, "any bits of no number", x.point(CYLINDER, -1L, 0, 5, 0), GliderHouse.OUTSIDE);
        Check.due("count(2)", x.count(2), 0);
    }

    private static void pointRadius() {
        Check.about("Promise 36", "a is the radius (1 .. 1000000)");
        GliderHouse x = new GliderHouse();
        long[] radii = {0, -1, 1000001, Long.MIN_VALUE, Long.MAX_VALUE, (1L << 32) + 5, Check.bits(100.0)};
        for (long radius : radii) {
            Check.refused(x, "a CYLINDER of " + radius, round(x, CYLINDER, 0, 0, radius, 0), GliderHouse.OUTSIDE);
            Check.refused(x, "a SECTOR of " + radius, round(x, SECTOR, 0, 0, radius, 0), GliderHouse.OUTSIDE);
        }
    }

    private static void pointQuarter() {
        Check.about("Promise 36", "of a SECTOR b its quarter");
        GliderHouse x = new GliderHouse();
        long[] quarters = {-1, 4, Long.MIN_VALUE, Long.MAX_VALUE, 1L << 32};
        for (long quarter : quarters) {
            Check.refused(x, "a quarter " + quarter, round(x, SECTOR, 0, 0, 5, quarter), GliderHouse.OUTSIDE);
        }
        Check.due("a CYLINDER has none", round(x, CYLINDER, 0, 0, 5, 4), 1);
    }

    private static void lineWithoutLength() {
        Check.about("Promise 36", "a LINE whose end has u u + v v 0");
        GliderHouse x = new GliderHouse();
        Check.refused(x, "the same fix", line(x, 10, 20, 10, 20), GliderHouse.OUTSIDE);
        Check.refused(x, "zeros of both signs", line(x, 0, 0, -0.0, -0.0), GliderHouse.OUTSIDE);
        Check.refused(x, "so near that the squares are 0", line(x, 0, 0, 1e-170, 1e-170), GliderHouse.OUTSIDE);
        Check.due("so near that one is not", line(x, 0, 0, 0, 1e-160), 1);
        Check.due("the next longitude", line(x, 10, 20, Math.nextUp(10.0), 20), 2);
        // 180 and -180 are not one longitude here
        Check.due("from 180 to -180", line(x, 180, 20, -180, 20), 3);
        // at a pole C is not 0, so longitudes still make a LINE
        Check.due("at a pole", line(x, 0, 90, 1, 90), 4);
    }

    private static void pointsFull() {
        Check.about("Promise 36", "a LINE whose end has u u + v v 0; FULL");
        GliderHouse x = new GliderHouse();
        for (int i = 1; i <= 6; i++) {
            Check.due("point", round(x, CYLINDER, 0, 0, i, 0), i);
        }
        Check.refused(x, "the 7th", round(x, CYLINDER, 0, 0, 5, 0), GliderHouse.FULL);
        Check.refused(x, "a LINE", line(x, 0, 0, 1, 1), GliderHouse.FULL);
        Check.refused(x, "OUTSIDE ahead of FULL", round(x, CYLINDER, 0, 0, 0, 0), GliderHouse.OUTSIDE);
        Check.refused(x, "OUTSIDE ahead of FULL", line(x, 0, 0, 0, 0), GliderHouse.OUTSIDE);
        Check.due("count(2)", x.count(2), 6);
    }

    private static void taskCleared() {
        Check.about("Promise 37", "The TASK has no POINTS: how many there were");
        GliderHouse x = Flights.flight(10, fix(0, 0));
        Check.due("of none", x.clearTask(), 0);
        Check.due("status()", x.status(), 0);
        for (int i = 0; i < 6; i++) {
            round(x, CYLINDER, 0, 0, 5, 0);
        }
        Check.due("of six", x.clearTask(), 6);
        Check.due("count(2)", x.count(2), 0);
        Check.due("of none again", x.clearTask(), 0);
        reaches(x);
        Check.due("a POINT anew", round(x, CYLINDER, 0, 0, 5, 0), 1);
        reaches(x, 10);
    }

    private static void cylinderBorder() {
        Check.about("Terms 4", "A fix LIES IN a CYLINDER: u u + v v is not above radius radius");
        int told = 0;
        for (int radius = 1; radius <= 60; radius++) {
            double just = Flights.latitudeOf(radius);
            if (just == just && just * Flights.METRES == radius) {
                told++;
                GliderHouse x = Flights.flight(10, fix(0, just));
                round(x, CYLINDER, 0, 0, radius, 0);
                reaches(x, 10);
            }
            // v is beyond the radius by one bit
            double beyond = radius / Flights.METRES;
            while (beyond * Flights.METRES * (beyond * Flights.METRES) <= (double) radius * radius) {
                beyond = Math.nextUp(beyond);
            }
            GliderHouse y = Flights.flight(10, fix(0, beyond), fix(0, -beyond));
            y.setting(Flights.GAP, 1);
            round(y, CYLINDER, 0, 0, radius, 0);
            reaches(y);
        }
        Check.yes("a fix on the border was told", told > 0);
    }

    private static void cylinderBorderCrossed() {
        Check.about("Terms 4", "with x = u + t du, y = v + t dv x x + y y is not above radius radius");
        // flown from west to east past (0, 0), v metres north of it
        int told = 0;
        for (int radius = 1000; radius < 1100; radius++) {
            double just = radius / Flights.METRES;
            if (just * Flights.METRES == radius) {
                told++;
                GliderHouse x = Flights.flight(10, fix(-0.25, just), fix(0.25, just));
                round(x, CYLINDER, 0, 0, radius, 0);
                reaches(x, 15);
                x.clearTask();
                round(x, CYLINDER, 0, 0, radius - 1, 0);
                reaches(x);
            }
        }
        Check.yes("a way along the border was told", told > 0);
    }

    private static void cylinderAllRound() {
        Check.about("Terms 4", "CYLINDER, SECTOR: from low = 0 to high = 1");
        // nearest in the midst, 39357.4 m from (0, 0), on each side of it; a CYLINDER has no quarter
        for (int side = 0; side < 4; side++) {
            GliderHouse x = Flights.flight(10, fix(0.5 * EAST[side], 0), fix(0, 0.5 * NORTH[side]));
            round(x, CYLINDER, 0, 0, 39358, (side + 2) % 4);
            reaches(x, 15);
            x.clearTask();
            round(x, CYLINDER, 0, 0, 39357, 0);
            reaches(x);
            // nearest at 0.29 / 0.41, 26075 m away
            GliderHouse uneven = Flights.flight(60, fix(0.5 * EAST[side], -0.1 * NORTH[side]), fix(0, 0.3 * NORTH[side]));
            round(uneven, CYLINDER, 0, 0, 26080, 0);
            reaches(uneven, 102);
            uneven.clearTask();
            round(uneven, CYLINDER, 0, 0, 26070, 0);
            reaches(uneven);
            for (int quarter = 0; quarter < 4; quarter++) {
                x.clearTask();
                round(x, SECTOR, 0, 0, 39358, quarter);
                if (quarter == side) {
                    reaches(x, 15);
                } else {
                    reaches(x);
                }
            }
        }
    }

    private static void cylinderStanding() {
        Check.about("Terms 4", "dd = du du + dv dv must not be 0");
        GliderHouse x = Flights.flight(10, fix(1, 1), fix(1, 1), fix(1, 1));
        round(x, CYLINDER, 0, 0, 1000, 0);
        round(x, SECTOR, 0, 0, 1000, 0);
        reaches(x);
        x.clearTask();
        // where it stands it LIES IN it: three fixes for four POINTS, as no two CROSS
        for (int i = 0; i < 4; i++) {
            round(x, CYLINDER, 1, 1, 1, 0);
        }
        reaches(x, 10, 20, 30);
        // so little that dd is 0
        GliderHouse y = Flights.flight(10, fix(0, 0), fix(0, 1e-170));
        for (int i = 0; i < 3; i++) {
            round(y, CYLINDER, 0, 0, 1, 0);
        }
        reaches(y, 10, 20);
    }

    private static void sectorQuarters() {
        Check.about("Terms 4", "0 u and v not below 0, 1 u not above, v not below 0, 2 both not above, 3 u not below, v not above 0");
        for (int quarter = 0; quarter < 4; quarter++) {
            for (int other = 0; other < 4; other++) {
                GliderHouse x = Flights.flight(10, fix(EAST[other] * 0.001, NORTH[other] * 0.001));
                round(x, SECTOR, 0, 0, 1000, quarter);
                if (other == quarter) {
                    reaches(x, 10);
                } else {
                    reaches(x);
                }
            }
        }
    }

    private static void sectorEdges() {
        Check.about("Terms 4", "a SECTOR: also its quarter holds");
        double[] zeros = {0.0, -0.0};
        for (int quarter = 0; quarter < 4; quarter++) {
            for (double zero : zeros) {
                double[][] on = {fix(zero, NORTH[quarter] * 0.001), fix(EAST[quarter] * 0.001, zero), fix(zero, zero), fix(zero, -zero)};
                double[][] off = {fix(zero, NORTH[quarter] * -0.001), fix(EAST[quarter] * -0.001, zero)};
                for (double[] fix : on) {
                    GliderHouse x = Flights.flight(10, fix);
                    round(x, SECTOR, 0, 0, 1000, quarter);
                    reaches(x, 10);
                }
                for (double[] fix : off) {
                    GliderHouse x = Flights.flight(10, fix);
                    round(x, SECTOR, 0, 0, 1000, quarter);
                    reaches(x);
                }
            }
        }
    }

    private static void sectorJustOutside() {
        Check.about("Terms 4", "a SECTOR: also its quarter holds");
        double least = Double.MIN_VALUE;
        for (int quarter = 0; quarter < 4; quarter++) {
            double[][] off = {fix(-EAST[quarter] * least, 0), fix(0, -NORTH[quarter] * least), fix(-EAST[quarter] * least, NORTH[quarter] * 0.001)};
            for (double[] fix : off) {
                GliderHouse x = Flights.flight(10, fix);
                round(x, SECTOR, 0, 0, 1000, quarter);
                reaches(x);
                x.clearTask();
                round(x, CYLINDER, 0, 0, 1000, quarter);
                reaches(x, 10);
            }
        }
    }

    private static void sectorCrossedAtItsEdge() {
        Check.about("Terms 4", "dx above 0: low becomes -x / dx, if that is above it; below: high becomes -x / dx, if that is below it");
        for (int quarter = 0; quarter < 4; quarter++) {
            int e = EAST[quarter];
            int n = NORTH[quarter];
            // into the quarter: nearest where it comes in, half of the way
            GliderHouse in = Flights.flight(10, fix(-0.25 * e, 0.001 * n), fix(0.25 * e, 0.001 * n));
            round(in, SECTOR, 0, 0, 112, quarter);
            reaches(in, 15);
            in.clearTask();
            round(in, SECTOR, 0, 0, 111, quarter);
            reaches(in);
            // out of it: nearest where it goes out
            GliderHouse out = Flights.flight(10, fix(0.25 * e, 0.001 * n), fix(-0.25 * e, 0.001 * n));
            round(out, SECTOR, 0, 0, 112, quarter);
            reaches(out, 15);
            // nearest is beyond the edge, so that it is the edge that counts: v is 0 at 1 / 3, u at 1 / 2
            GliderHouse held = Flights.flight(30, fix(-0.02 * e, -0.01 * n), fix(0.02 * e, 0.02 * n));
            round(held, SECTOR, 0, 0, 600, quarter);
            reaches(held, 45);
            held.clearTask();
            round(held, SECTOR, 0, 0, 550, quarter);
            reaches(held);
        }
    }

    private static void sectorLowAboveHigh() {
        Check.about("Terms 4", "low must not be above high");
        for (int quarter = 0; quarter < 4; quarter++) {
            int e = EAST[quarter];
            int n = NORTH[quarter];
            // u is in up to 1 / 4, v from 3 / 4 on
            GliderHouse x = Flights.flight(10, fix(0.1 * e, -0.3 * n), fix(-0.3 * e, 0.1 * n));
            round(x, SECTOR, 0, 0, 1000000, quarter);
            reaches(x);
            // both at 1 / 2: just the apex
            GliderHouse y = Flights.flight(10, fix(0.25 * e, -0.25 * n), fix(-0.25 * e, 0.25 * n));
            round(y, SECTOR, 0, 0, 1, quarter);
            reaches(y, 15);
            // from the edge on it goes away: high is 0
            GliderHouse z = Flights.flight(10, fix(0, 0.001 * n), fix(-0.25 * e, 0.001 * n));
            round(z, SECTOR, 0, 0, 1000, quarter);
            round(z, SECTOR, 0, 0, 1000, quarter);
            reaches(z, 10, 10);
        }
    }

    private static void sectorAlongItsEdge() {
        Check.about("Terms 4", "dx 0: x must not be below 0");
        for (int quarter = 0; quarter < 4; quarter++) {
            int n = NORTH[quarter];
            // along the edge itself, and a little outside of it
            GliderHouse on = Flights.flight(10, fix(0, -0.25 * n), fix(0, 0.25 * n));
            round(on, SECTOR, 0, 0, 1, quarter);
            reaches(on, 15);
            GliderHouse off = Flights.flight(10, fix(-1e-9 * EAST[quarter], -0.25 * n), fix(-1e-9 * EAST[quarter], 0.25 * n));
            round(off, SECTOR, 0, 0, 1, quarter);
            reaches(off);
            GliderHouse in = Flights.flight(10, fix(1e-9 * EAST[quarter], -0.25 * n), fix(1e-9 * EAST[quarter], 0.25 * n));
            round(in, SECTOR, 0, 0, 1, quarter);
            reaches(in, 15);
        }
    }

    /** What one pair of fixes left of low and high is nothing to the next pair. */
    private static void sectorAskedAgain() {
        Check.about("Terms 4", "CYLINDER, SECTOR: from low = 0 to high = 1");
        for (int quarter = 0; quarter < 4; quarter++) {
            int e = EAST[quarter];
            int n = NORTH[quarter];
            GliderHouse x = Flights.flight(60, fix(-0.25 * e, 0.1 * n), fix(0.01 * e, 0.0005 * n), fix(-0.05 * e, 0.0005 * n));
            round(x, SECTOR, 0, 0, 100, quarter);
            // the first two are in it from 0.96 on, but too far away; the next two up to 1 / 6
            reaches(x, 130);
            GliderHouse y = Flights.flight(60, fix(0.05 * e, 0.01 * n), fix(-0.25 * e, 0.01 * n), fix(0.05 * e, 0.0001 * n));
            round(y, SECTOR, 0, 0, 100, quarter);
            // the first two are in it up to 1 / 6, the next two from 5 / 6 on, but too far away
            reaches(y);
            y.clearTask();
            round(y, SECTOR, 0, 0, 1000, quarter);
            reaches(y, 170);
        }
    }

    private static void lineEnds() {
        Check.about("Terms 4", "a LINE, with U, V its end: U v - V u is 0, and u U + v V is 0 to U U + V V");
        double[][] ends = {fix(0.5, 0), fix(-0.5, 0), fix(0, 0.5), fix(0, -0.5), fix(0.5, 0.5), fix(-0.5, 0.5)};
        for (double[] end : ends) {
            GliderHouse first = Flights.flight(10, fix(0, 0));
            line(first, 0, 0, end[0], end[1]);
            reaches(first, 10);
            GliderHouse last = Flights.flight(10, end);
            line(last, 0, 0, end[0], end[1]);
            reaches(last, 10);
            GliderHouse middle = Flights.flight(10, fix(end[0] / 2, end[1] / 2));
            line(middle, 0, 0, end[0], end[1]);
            reaches(middle, 10);
        }
        GliderHouse zero = Flights.flight(10, fix(-0.0, -0.0));
        line(zero, 0, 0, 0, 1);
        reaches(zero, 10);
    }

    private static void lineJustOutside() {
        Check.about("Terms 4", "U v - V u is 0, and u U + v V is 0 to U U + V V");
        // on the LINE's own way, but beyond its two ends; beside it
        double beyond = 0.5;
        while (beyond * Flights.METRES * (0.5 * Flights.METRES) <= 0.5 * Flights.METRES * (0.5 * Flights.METRES)) {
            beyond = Math.nextUp(beyond);
        }
        double[][] off = {fix(0, beyond), fix(0, -1e-9), fix(1e-9, 0.25), fix(-1e-9, 0.25), fix(1e-9, 0), fix(1e-9, 0.5), fix(0, -0.5)};
        for (double[] fix : off) {
            GliderHouse x = Flights.flight(10, fix);
            line(x, 0, 0, 0, 0.5);
            reaches(x);
        }
        // so little that u U + v V is 0, or the same as at its end
        GliderHouse x = Flights.flight(10, fix(0, -Double.MIN_VALUE));
        line(x, 0, 0, 0, 1e-100);
        reaches(x, 10);
    }

    private static void lineCrossedAtItsEnds() {
        Check.about("Terms 4", "x U + y V is 0 to U U + V V");
        GliderHouse x = Flights.flight(10, fix(-0.25, 0.5), fix(0.25, 0.5));
        line(x, 0, 0.5, 0, 0.75);
        line(x, 0, 0, 0, 1);
        reaches(x, 15);
        x.clearTask();
        line(x, 0, 0.25, 0, 0.5);
        reaches(x, 15);
        x.clearTask();
        line(x, 0, Math.nextUp(0.5), 0, 1);
        reaches(x);
        x.clearTask();
        line(x, 0, 0, 0, 0.4999999999);
        reaches(x);
    }

    private static void lineTouched() {
        Check.about("Terms 4", "not both 0, one not below 0, one not above 0");
        double[] sides = {-0.5, 0.5};
        for (double side : sides) {
            // the way ends on the LINE, or begins on it: both CROSS it
            GliderHouse to = Flights.flight(10, fix(side, 0), fix(0, 0));
            line(to, 0, -1, 0, 1);
            line(to, 0, -1, 0, 1);
            reaches(to, 20, 20);
            GliderHouse from = Flights.flight(10, fix(0, 0), fix(side, 0));
            line(from, 0, -1, 0, 1);
            line(from, 0, -1, 0, 1);
            reaches(from, 10, 10);
            // both on one side: none
            GliderHouse beside = Flights.flight(10, fix(side, 0), fix(side / 4, 0));
            line(beside, 0, -1, 0, 1);
            reaches(beside);
        }
        // so short a LINE, and so near it, that U v - V u is far below 1: still both on one side
        double end = 1e-7;
        double[] north = {1e-5, -1e-5};
        for (double near : north) {
            GliderHouse x = Flights.flight(10, fix(0, near), fix(0, near / 2));
            line(x, 0, 0, end, 0);
            reaches(x);
            GliderHouse through = Flights.flight(10, fix(0, near), fix(0, -near));
            line(through, 0, 0, end, 0);
            reaches(through, 15);
        }
    }

    private static void lineAlong() {
        Check.about("Terms 4", "not both 0");
        GliderHouse x = Flights.flight(10, fix(0, -2), fix(0, 2));
        line(x, 0, -1, 0, 1);
        reaches(x);
        GliderHouse y = Flights.flight(10, fix(0, -2), fix(0, 1), fix(0, 2));
        line(y, 0, -1, 0, 1);
        line(y, 0, -1, 0, 1);
        reaches(y, 20);
    }

    private static void gapBetween() {
        Check.about("Terms 4", "Two KEPT fixes a, b, one behind the other, not more than GAP seconds apart, CROSS it");
        int[] gaps = {1, 59, 60, 61, 99999, 100000};
        for (int gap : gaps) {
            GliderHouse x = Flights.flight(gap, fix(-0.25, 0), fix(0.25, 0));
            x.setting(Flights.GAP, gap);
            round(x, CYLINDER, 0, 0, 10, 0);
            reaches(x, gap + (gap + 1) / 2);
            x.set(0, 0, Flights.MOMENTS, 1, 2L * gap + 1);
            x.read(0);
            reaches(x);
            x.clearTask();
            line(x, 0, -1, 0, 1);
            reaches(x);
            x.clearTask();
            round(x, SECTOR, 0, 0, 10, 0);
            reaches(x);
        }
    }

    private static void gapOfOneFix() {
        Check.about("Terms 4", "by a fix that LIES IN it (its moment), else by it and the next one, if they CROSS");
        GliderHouse x = Flights.flight(1000, fix(-0.25, 0), fix(0, 0), fix(0.25, 0));
        x.setting(Flights.GAP, 1);
        round(x, CYLINDER, 0, 0, 10, 0);
        round(x, CYLINDER, 0.25, 0, 10, 0);
        reaches(x, 2000, 3000);
    }

    private static void momentRounded() {
        Check.about("Terms 4", "The moment is a's and the floor of (t times the seconds between them, + 0.5)");
        // a LINE at 1 / 4 and at 1 / 2 of the way
        double[][] quarter = {fix(-0.125, 0), fix(0.375, 0)};
        double[][] half = {fix(-0.25, 0), fix(0.25, 0)};
        for (int seconds = 1; seconds <= 9; seconds++) {
            GliderHouse x = Flights.flight(seconds, quarter);
            line(x, 0, -1, 0, 1);
            reaches(x, seconds + (long) Math.floor(0.25 * seconds + 0.5));
            GliderHouse y = Flights.flight(seconds, half);
            line(y, 0, -1, 0, 1);
            reaches(y, seconds + (long) Math.floor(0.5 * seconds + 0.5));
        }
        GliderHouse x = Flights.flight(10, quarter);
        x.set(0, 0, Flights.MOMENTS, 0, 999999999997L);
        x.set(0, 0, Flights.MOMENTS, 1, 999999999999L);
        x.read(0);
        line(x, 0, -1, 0, 1);
        reaches(x, 999999999998L);
    }

    private static void reachedByAFix() {
        Check.about("Terms 4", "Behind one that was REACHED by a fix it goes on with that one and the next (if they CROSS; that fix alone is not asked again), then with the next one");
        GliderHouse x = Flights.flight(10, fix(0, 0), fix(0.5, 0), fix(1, 0));
        round(x, CYLINDER, 0, 0, 10, 0);
        round(x, CYLINDER, 0.25, 0, 10, 0);
        round(x, CYLINDER, 0.5, 0, 10, 0);
        round(x, CYLINDER, 1, 0, 10, 0);
        // by fix 0; by 0 and 1; by 1; by 1 and 2, nearest at 2
        reaches(x, 10, 15, 20, 30);
        x.clearTask();
        // the same POINT twice: by fix 0, then by it and the next one, nearest at the first
        round(x, CYLINDER, 0, 0, 10, 0);
        round(x, CYLINDER, 0, 0, 10, 0);
        round(x, CYLINDER, 0, 0, 10, 0);
        reaches(x, 10, 10);
        GliderHouse one = Flights.flight(10, fix(0, 0));
        round(one, CYLINDER, 0, 0, 10, 0);
        round(one, CYLINDER, 0, 0, 10, 0);
        reaches(one, 10);
        // they do not CROSS by GAP: the next one is asked alone
        GliderHouse y = Flights.flight(10, fix(0, 0), fix(0, 0.0001));
        y.setting(Flights.GAP, 9);
        round(y, CYLINDER, 0, 0, 100, 0);
        round(y, CYLINDER, 0, 0, 100, 0);
        round(y, CYLINDER, 0, 0, 100, 0);
        reaches(y, 10, 20);
    }

    private static void reachedByTwo() {
        Check.about("Terms 4", "by two, with the later one (asked alone first)");
        GliderHouse x = Flights.flight(10, fix(-0.5, 0), fix(0.5, 0), fix(1, 0));
        round(x, CYLINDER, 0, 0, 10, 0);
        round(x, CYLINDER, 0.25, 0, 10, 0);
        reaches(x, 15);
        x.clearTask();
        round(x, CYLINDER, 0, 0, 10, 0);
        round(x, CYLINDER, 0.5, 0, 10, 0);
        round(x, CYLINDER, 0.5, 0, 10, 0);
        // by 0 and 1; by 1 alone; by 1 and 2, nearest at 1
        reaches(x, 15, 20, 20);
        x.clearTask();
        round(x, CYLINDER, 0, 0, 10, 0);
        round(x, CYLINDER, 0.75, 0, 10, 0);
        round(x, CYLINDER, 1, 0, 10, 0);
        reaches(x, 15, 25, 30);
    }

    private static void reachedInOrder() {
        Check.about("Terms 4", "POINTS are REACHED in order: from the first KEPT one on");
        GliderHouse x = Flights.flight(10, fix(0, 0), fix(0.5, 0), fix(1, 0));
        round(x, CYLINDER, 1, 0, 10, 0);
        round(x, CYLINDER, 0, 0, 10, 0);
        reaches(x, 30);
        x.clearTask();
        round(x, CYLINDER, 5, 0, 10, 0);
        round(x, CYLINDER, 0, 0, 10, 0);
        reaches(x);
        x.clearTask();
        for (int i = 0; i < 6; i++) {
            round(x, CYLINDER, i * 0.2, 0, 10, 0);
        }
        // 0, 0.2 | 0.4 would be by the same two fixes, which are not asked again
        reaches(x, 10, 14);
    }

    private static void reachedByTheLast() {
        Check.about("Terms 4", "by a fix that LIES IN it (its moment), else by it and the next one, if they CROSS, and so on");
        GliderHouse x = Flights.flight(10, fix(0, 0), fix(1, 0));
        x.setting(Flights.GAP, 1);
        round(x, CYLINDER, 1, 0, 10, 0);
        reaches(x, 20);
        GliderHouse y = Flights.flight(10, fix(0, 0), fix(1, 0));
        round(y, CYLINDER, 0.5, 0, 10, 0);
        round(y, CYLINDER, 1, 0, 10, 0);
        round(y, CYLINDER, 1, 0, 10, 0);
        reaches(y, 15, 20);
    }

    private static void reachedOfNothing() {
        Check.about("Promise 38", "How many POINTS of the TASK a RECORDER REACHED");
        GliderHouse x = new GliderHouse();
        x.trace();
        x.recorder(0, 0);
        x.read(0);
        reaches(x);
        round(x, CYLINDER, 0, 0, 1000000, 0);
        reaches(x);
        GliderHouse y = Flights.flight(10, fix(0, 0));
        reaches(y);
        Check.due("no POINTS, no WAY", y.taskWay(), 0);
        GliderHouse z = Flights.flight(10, fix(181, 0), fix(0, 91));
        round(z, CYLINDER, 0, 0, 1000000, 0);
        reaches(z);
    }

    private static void reachedByKept() {
        Check.about("Terms 4", "Two KEPT fixes a, b, one behind the other");
        GliderHouse x = Flights.flight(10, fix(-0.25, 0), fix(0, 5), fix(0.25, 0));
        round(x, CYLINDER, 0, 5, 10, 0);
        reaches(x, 20);
        x.set(0, 0, Flights.MOMENTS, 1, 10);
        x.read(0);
        reaches(x);
        x.clearTask();
        round(x, CYLINDER, 0, 0, 10, 0);
        reaches(x, 20);
        Flights.put(x, 1, fix(Double.NaN, 0));
        x.read(0);
        reaches(x, 20);
    }

    private static void taskRefused() {
        Check.about("Promise 38", "UNKNOWN; STATE");
        GliderHouse x = Flights.flight(10, fix(0, 0));
        x.recorder(0, 0);
        round(x, CYLINDER, 0, 0, 10, 0);
        reaches(x, 10);
        int[] unknown = {-1, 2, 8, Integer.MAX_VALUE};
        for (int r : unknown) {
            Check.refused(x, "task(" + r + ")", x.task(r), GliderHouse.UNKNOWN);
        }
        Check.refused(x, "not READ", x.task(1), GliderHouse.STATE);
        Check.due("the latest task() is that which was not refused", x.reached(0), 10);
    }

    private static void reachedAtItsEnds() {
        Check.about("Promise 39", "The moment of POINT k of the latest task(); NONE: it was not REACHED");
        GliderHouse x = Flights.flight(10, fix(0, 0), fix(1, 0));
        Check.due("before any task()", x.reached(0), GliderHouse.NONE);
        round(x, CYLINDER, 0, 0, 10, 0);
        round(x, CYLINDER, 1, 0, 10, 0);
        round(x, CYLINDER, 9, 0, 10, 0);
        reaches(x, 10, 20);
        int[] none = {-1, 2, 3, 6, Integer.MIN_VALUE, Integer.MAX_VALUE};
        for (int k : none) {
            Check.due("reached(" + k + ")", x.reached(k), GliderHouse.NONE);
        }
        x.clearTask();
        Check.due("it stays behind clearTask()", x.reached(1), 20);
        x.read(0);
        Check.due("and behind read()", x.reached(1), 20);
        x.task(0);
        Check.due("till the next task()", x.reached(0), GliderHouse.NONE);
        GliderHouse y = Flights.flight(10, fix(0, 0));
        y.set(0, 0, Flights.MOMENTS, 0, 0);
        y.read(0);
        round(y, CYLINDER, 0, 0, 10, 0);
        reaches(y, 0);
    }

    private static void taskWays() {
        Check.about("Promise 40", "Bits of the TASK's WAY by the latest task(); 0.0 before");
        GliderHouse x = Flights.flight(10, fix(0, 0), fix(0.5, 0.1), fix(1, 0));
        Check.due("before", x.taskWay(), 0);
        round(x, CYLINDER, 0, 0, 10, 0);
        round(x, CYLINDER, 0.5, 0.1, 10, 0);
        Check.due("before", x.taskWay(), 0);
        reaches(x, 10, 20);
        double way = 0.0 + Flights.way(fix(0, 0), fix(0.5, 0.1));
        Check.due("of two", x.taskWay(), Check.bits(way));
        round(x, CYLINDER, 9, 0, 10, 0);
        reaches(x, 10, 20);
        Check.due("of what was REACHED", x.taskWay(), Check.bits(way));
        x.clearTask();
        Check.due("it stays behind clearTask()", x.taskWay(), Check.bits(way));
        // a LINE by its first end, however it was REACHED
        line(x, 0.5, -1, 0.5, 1);
        round(x, CYLINDER, 1, 0, 10, 0);
        reaches(x, 20, 30);
        Check.due("by the first lon, lat", x.taskWay(), Check.bits(0.0 + Flights.way(fix(0.5, -1), fix(1, 0))));
        x.clearTask();
        round(x, CYLINDER, 0.5, 0.1, 10, 0);
        reaches(x, 20);
        Check.due("of one", x.taskWay(), 0);
        x.lack(-1);
        x.taskWay();
        Check.due("taskWay() leaves STATUS", x.status(), GliderHouse.OUTSIDE);
    }
}
