/** Houses with a flight laid fix by fix, and the document's reckoning of WAYS, for the tests of edges. */
final class Flights {
    static final double METRES = 111319.49079327358;
    static final int GAP = 0, JUMP = 1, NOISE = 2, DIFFER = 3, SHIFT = 4;
    static final int MOMENTS = 0, FIXES = 1, PRESSURES = 2, NOISES = 3, MARKS = 4;
    static final int[] MOST = {24, 48, 24, 24, 24};
    static final int PLAIN = 0, MOTOR = 1, NET = 2;
    static final long NO_NUMBER = 0x7FF8000000000000L;
    static final int NO_FLOAT = 0x7FC00000;
    static final int ENDLESS = 0x7F800000;

    private Flights() {
    }

    static double[] fix(double longitude, double latitude) {
        return new double[] {longitude, latitude};
    }

    /** A TRACE 0 with n READINGS at HERE as at first, dt seconds apart, the first at dt. */
    static GliderHouse still(int n, int dt) {
        GliderHouse x = new GliderHouse();
        x.trace();
        for (int from = 0; from < n; from += 24) {
            x.fly(0, Math.min(24, n - from), dt, 0, 0, 0);
        }
        return x;
    }

    /** A PLAIN RECORDER 0 that was READ with these fixes, dt seconds apart, the first at dt; JUMP 100000. */
    static GliderHouse flight(int dt, double[]... fixes) {
        GliderHouse x = still(fixes.length, dt);
        x.setting(JUMP, 100000);
        for (int i = 0; i < fixes.length; i++) {
            put(x, i, fixes[i]);
        }
        x.recorder(PLAIN, 0);
        x.read(0);
        return x;
    }

    static void put(GliderHouse x, int i, double[] fix) {
        x.set(0, i / 24, FIXES, 2 * (i % 24), Double.doubleToRawLongBits(fix[0]));
        x.set(0, i / 24, FIXES, 2 * (i % 24) + 1, Double.doubleToRawLongBits(fix[1]));
    }

    static void press(GliderHouse x, int i, float pressure) {
        x.set(0, i / 24, PRESSURES, i % 24, Float.floatToRawIntBits(pressure));
    }

    static int lay(GliderHouse x, float pressure, float height) {
        return x.table(Float.floatToRawIntBits(pressure), Float.floatToRawIntBits(height));
    }

    /** The findings of the latest read(), three numbers each, and that there are no more. */
    static void found(GliderHouse x, int... want) {
        Check.due("count(4)", x.count(4), want.length / 3);
        for (int i = 0; i < want.length; i++) {
            Check.due("finding(" + i / 3 + ", " + i % 3 + ")", x.finding(i / 3, i % 3), want[i]);
        }
        Check.due("finding behind", x.finding(want.length / 3, 0), GliderHouse.UNKNOWN);
    }

    static double cosine(double t) {
        double r = t * 0.017453292519943295;
        double s = r * r;
        return 1 - s * (0.5 - s * (0.041666666666666664 - s * 0.001388888888888889));
    }

    static double way(double[] a, double[] b) {
        double m = (a[1] + b[1]) * 0.5;
        double u = (b[0] - a[0]) * cosine(m) * METRES;
        double v = (b[1] - a[1]) * METRES;
        return Math.sqrt(u * u + v * v);
    }

    /** A latitude whose WAY from (0, 0) is the metres to the last bit; no number if there is none. */
    static double latitudeOf(double metres) {
        double t = metres / METRES;
        double[] near = {t, Math.nextUp(t), Math.nextDown(t)};
        for (double latitude : near) {
            if (way(fix(0, 0), fix(0, latitude)) == metres) {
                return latitude;
            }
        }
        return Double.NaN;
    }

    /** A latitude whose WAY from (0, 0) is more than these metres, but by the least that can be (above 0 by very little). */
    static double latitudeBeyond(double metres) {
        if (metres == 0) {
            return 1e-150;
        }
        double latitude = metres / METRES;
        while (way(fix(0, 0), fix(0, latitude)) > metres) {
            latitude = Math.nextDown(latitude);
        }
        while (way(fix(0, 0), fix(0, latitude)) <= metres) {
            latitude = Math.nextUp(latitude);
        }
        return latitude;
    }
}
