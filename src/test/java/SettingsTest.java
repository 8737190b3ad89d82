/** Promises 1 to 6: a new object, settings, THE TABLE, ceilings. */
public final class SettingsTest {
    public static void main(String[] args) {
        newObject();
        settings();
        table();
        tableEdges();
        ceilings();
        Check.end("SettingsTest");
    }

    private static void newObject() {
        GliderHouse x = new GliderHouse();
        for (int what = 0; what < 10; what++) {
            Check.due("count(" + what + ")", x.count(what), 0);
        }
        Check.due("status()", x.status(), 0);
        Check.due("taskWay()", x.taskWay(), 0);
        Check.due("corner(0)", x.corner(0), GliderHouse.NONE);
        Check.due("reached(0)", x.reached(0), GliderHouse.NONE);
        Check.due("cause(0, 0)", x.cause(0, 0), GliderHouse.UNKNOWN);
        Check.due("finding(0, 0)", x.finding(0, 0), GliderHouse.UNKNOWN);
        Check.due("out(0)", x.out(0), GliderHouse.NONE);
        Check.due("lacks(0)", x.lacks(0), GliderHouse.NONE);
        Check.due("lacks(1)", x.lacks(1), 0);
        Check.due("lacks(2)", x.lacks(2), 0);
        Check.due("GAP", x.setting(0, 1), 60);
        Check.due("JUMP", x.setting(1, 1), 100);
        Check.due("NOISE", x.setting(2, 1), 500);
        Check.due("DIFFER", x.setting(3, 1), 50);
        Check.due("SHIFT", x.setting(4, 1), 0);
    }

    private static void settings() {
        int[][] limits = {{1, 100000}, {1, 100000}, {Integer.MIN_VALUE, Integer.MAX_VALUE}, {0, 1000000}, {-1000000, 1000000}};
        int[] first = {60, 100, 500, 50, 0};
        GliderHouse x = new GliderHouse();
        for (int what = 0; what < 5; what++) {
            Check.due("setting least " + what, x.setting(what, limits[what][0]), first[what]);
            Check.due("setting most " + what, x.setting(what, limits[what][1]), limits[what][0]);
            if (what != 2) {
                Check.refusedAs(x, "below " + what, x.setting(what, limits[what][0] - 1), -2000000000, GliderHouse.OUTSIDE);
                Check.refusedAs(x, "above " + what, x.setting(what, limits[what][1] + 1), -2000000000, GliderHouse.OUTSIDE);
            }
            Check.due("unchanged " + what, x.setting(what, 1), limits[what][1]);
            Check.due("status", x.status(), 0);
        }
        Check.refusedAs(x, "setting(5, 1)", x.setting(5, 1), -2000000000, GliderHouse.OUTSIDE);
        Check.refusedAs(x, "setting(-1, 1)", x.setting(-1, 1), -2000000000, GliderHouse.OUTSIDE);
    }

    private static int lay(GliderHouse x, float pressure, float height) {
        return x.table(Check.bits(pressure), Check.bits(height));
    }

    private static void table() {
        GliderHouse x = new GliderHouse();
        for (int i = 0; i < 10; i++) {
            Check.due("table", lay(x, 1000 - i, i), i + 1);
        }
        Check.due("count(3)", x.count(3), 10);
        Check.refused(x, "table 11", lay(x, 900, 0), GliderHouse.FULL);
        Check.refused(x, "OUTSIDE ahead of FULL", lay(x, 991, 0), GliderHouse.OUTSIDE);
        Check.due("clearTable()", x.clearTable(), 10);
        Check.due("status()", x.status(), 0);
        Check.due("clearTable()", x.clearTable(), 0);
        Check.due("table anew", lay(x, 991, 0), 1);
    }

    private static void tableEdges() {
        GliderHouse x = new GliderHouse();
        float[] wrong = {-0.001f, 2000.001f, Float.NaN, Float.POSITIVE_INFINITY, Float.NEGATIVE_INFINITY};
        for (float p : wrong) {
            Check.refused(x, "pressure " + p, lay(x, p, 0), GliderHouse.OUTSIDE);
        }
        Check.refused(x, "bits of no number", x.table(0x7F800001, 0), GliderHouse.OUTSIDE);
        float[] wrongHeights = {-1000.001f, 40000.004f, Float.NaN, Float.POSITIVE_INFINITY, Float.NEGATIVE_INFINITY};
        for (float h : wrongHeights) {
            Check.refused(x, "height " + h, lay(x, 1, h), GliderHouse.OUTSIDE);
        }
        Check.due("most", lay(x, 2000, 40000), 1);
        Check.refused(x, "not 1 below", lay(x, 1999.0001f, 0), GliderHouse.OUTSIDE);
        Check.refused(x, "as much", lay(x, 2000, 0), GliderHouse.OUTSIDE);
        Check.due("1 below", lay(x, 1999, -1000), 2);
        Check.due("least", lay(x, -0.0f, 0), 3);
        Check.refused(x, "below the least", lay(x, 0, 0), GliderHouse.OUTSIDE);
        x.clearTable();
        Check.due("table 1.5", lay(x, 1.5f, 0), 1);
        Check.refused(x, "table 0.6", lay(x, 0.6f, 0), GliderHouse.OUTSIDE);
        Check.due("table 0.5", lay(x, 0.5f, 0), 2);
    }

    private static void ceilings() {
        GliderHouse x = new GliderHouse();
        Check.due("ceiling", x.ceiling(0, 0, 0), 1);
        Check.due("ceiling", x.ceiling(6, 3, 100000), 1);
        Check.due("ceiling", x.ceiling(6, 3, 7), 1);
        Check.due("ceiling", x.ceiling(6, 0, 7), 1);
        Check.due("count(9)", x.count(9), 3);
        int[][] wrong = {{-1, 0, 0}, {7, 0, 0}, {0, -1, 0}, {0, 4, 0}, {0, 0, -1}, {0, 0, 100001}};
        for (int[] w : wrong) {
            Check.refused(x, "ceiling wrong", x.ceiling(w[0], w[1], w[2]), GliderHouse.OUTSIDE);
        }
        Check.due("count(9)", x.count(9), 3);
        Check.refused(x, "lack(7)", x.lack(7), GliderHouse.OUTSIDE);
        Check.refused(x, "lack(-1)", x.lack(-1), GliderHouse.OUTSIDE);
        Check.due("lack(6)", x.lack(6), 2);
        Check.due("status()", x.status(), 0);
        Check.due("lack(6)", x.lack(6), 0);
        Check.due("count(9)", x.count(9), 1);
        Check.due("lack(0)", x.lack(0), 1);
    }
}
