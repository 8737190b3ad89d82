/** The edges that promises 1 to 6 name: a new object, settings, THE TABLE, ceilings. */
public final class EdgesSettingsTest {
    private static final int REFUSED = -2000000000;
    private static final int[] LEAST = {1, 1, Integer.MIN_VALUE, 0, -1000000};
    private static final int[] MOST = {100000, 100000, Integer.MAX_VALUE, 1000000, 1000000};
    private static final int[] FIRST = {60, 100, 500, 50, 0};

    public static void main(String[] args) {
        nothingAtFirst();
        settingsAtFirst();
        settingsAtTheirEnds();
        settingsJustOutside();
        settingsOfNoKind();
        refusedSettingChangesNothing();
        pressuresAtTheirEnds();
        pressuresOutside();
        pressuresOneBelow();
        heightsAtTheirEnds();
        heightsOutside();
        tableFull();
        refusedPointLeavesTheTable();
        tableCleared();
        ceilingsAtTheirEnds();
        ceilingsOutside();
        ceilingToldAgain();
        daysThatLack();
        daysOutside();
        Check.end("EdgesSettingsTest");
    }

    private static void nothingAtFirst() {
        Check.about("Promise 1", "No TRACES, RECORDERS, TABLE, TASK, ceilings");
        GliderHouse x = new GliderHouse();
        for (int what = 0; what <= 9; what++) {
            Check.due("count(" + what + ")", x.count(what), 0);
        }
        Check.due("status()", x.status(), 0);
        Check.refused(x, "block(0)", x.block(0), GliderHouse.UNKNOWN);
        Check.refused(x, "read(0)", x.read(0), GliderHouse.UNKNOWN);
        Check.due("clearTable()", x.clearTable(), 0);
        Check.due("clearTask()", x.clearTask(), 0);
        for (int day = 0; day <= 6; day++) {
            Check.due("lack(" + day + ")", x.lack(day), 0);
        }
        Check.due("out(0)", x.out(0), GliderHouse.NONE);
        Check.due("finding(0, 0)", x.finding(0, 0), GliderHouse.UNKNOWN);
        Check.due("corner(0)", x.corner(0), GliderHouse.NONE);
        Check.due("reached(0)", x.reached(0), GliderHouse.NONE);
        Check.due("cause(0, 0)", x.cause(0, 0), GliderHouse.UNKNOWN);
        Check.due("lacks(0)", x.lacks(0), GliderHouse.NONE);
    }

    private static void settingsAtFirst() {
        Check.about("Promise 1", "GAP 60, JUMP 100, NOISE 500, DIFFER 50, SHIFT 0");
        GliderHouse x = new GliderHouse();
        for (int what = 0; what < 5; what++) {
            Check.due("setting(" + what + ", 1)", x.setting(what, 1), FIRST[what]);
        }
    }

    private static void settingsAtTheirEnds() {
        Check.about("Promise 2", "what = 0 GAP (1 .. 100000), 1 JUMP (1 .. 100000), 2 NOISE (any), 3 DIFFER (0 .. 1000000), 4 SHIFT (-1000000 .. 1000000): what it was");
        for (int what = 0; what < 5; what++) {
            GliderHouse x = new GliderHouse();
            Check.due("the least of " + what, x.setting(what, LEAST[what]), FIRST[what]);
            Check.due("status()", x.status(), 0);
            Check.due("the most of " + what, x.setting(what, MOST[what]), LEAST[what]);
            Check.due("status()", x.status(), 0);
            Check.due("what it was", x.setting(what, 1), MOST[what]);
        }
        GliderHouse x = new GliderHouse();
        x.setting(Flights.NOISE, REFUSED);
        Check.due("a NOISE that looks like a refusal", x.setting(Flights.NOISE, 0), REFUSED);
        Check.due("but is none", x.status(), 0);
    }

    private static void settingsJustOutside() {
        Check.about("Promise 2", "OUTSIDE: -2000000000");
        for (int what = 0; what < 5; what++) {
            GliderHouse x = new GliderHouse();
            if (what != Flights.NOISE) {
                Check.refusedAs(x, "below " + what, x.setting(what, LEAST[what] - 1), REFUSED, GliderHouse.OUTSIDE);
                Check.refusedAs(x, "above " + what, x.setting(what, MOST[what] + 1), REFUSED, GliderHouse.OUTSIDE);
                Check.refusedAs(x, "least int of " + what, x.setting(what, Integer.MIN_VALUE), REFUSED, GliderHouse.OUTSIDE);
                Check.refusedAs(x, "greatest int of " + what, x.setting(what, Integer.MAX_VALUE), REFUSED, GliderHouse.OUTSIDE);
            }
        }
    }

    private static void settingsOfNoKind() {
        Check.about("Promise 2", "OUTSIDE: -2000000000");
        GliderHouse x = new GliderHouse();
        int[] whats = {-1, 5, Integer.MIN_VALUE, Integer.MAX_VALUE};
        for (int what : whats) {
            Check.refusedAs(x, "setting(" + what + ", 1)", x.setting(what, 1), REFUSED, GliderHouse.OUTSIDE);
        }
    }

    private static void refusedSettingChangesNothing() {
        Check.about("Terms answers", "These change nothing but STATUS");
        GliderHouse x = new GliderHouse();
        for (int what = 0; what < 5; what++) {
            if (what != Flights.NOISE) {
                x.setting(what, MOST[what] + 1);
                x.setting(what, LEAST[what] - 1);
            }
            Check.due("setting " + what + " is as it was", x.setting(what, 1), FIRST[what]);
        }
    }

    private static void pressuresAtTheirEnds() {
        Check.about("Promise 3", "A POINT more of THE TABLE, of floats: how many");
        float[] pressures = {0f, -0f, Float.MIN_VALUE, 2000f, Math.nextDown(2000f)};
        for (float p : pressures) {
            GliderHouse x = new GliderHouse();
            Check.due("table of " + p, Flights.lay(x, p, 0), 1);
            Check.due("status()", x.status(), 0);
            Check.due("count(3)", x.count(3), 1);
        }
    }

    private static void pressuresOutside() {
        Check.about("Promise 3", "OUTSIDE: the pressure is not a number 0 .. 2000");
        GliderHouse x = new GliderHouse();
        int[] bits = {Check.bits(-Float.MIN_VALUE), Check.bits(-1f), Check.bits(Math.nextUp(2000f)), Check.bits(Float.MAX_VALUE),
            0x7F800000, 0xFF800000, 0x7FC00000, 0x7F800001, 0x7FFFFFFF, 0xFF800001, 0xFFFFFFFF};
        for (int p : bits) {
            Check.refused(x, "table(" + p + ", 0)", x.table(p, 0), GliderHouse.OUTSIDE);
        }
        Check.due("count(3)", x.count(3), 0);
    }

    private static void pressuresOneBelow() {
        Check.about("Promise 3", "or not 1 at least below the one ahead (as floats)");
        GliderHouse x = new GliderHouse();
        Flights.lay(x, 1000f, 0);
        Check.refused(x, "as much", Flights.lay(x, 1000f, 0), GliderHouse.OUTSIDE);
        Check.refused(x, "above", Flights.lay(x, 1001f, 0), GliderHouse.OUTSIDE);
        Check.refused(x, "less than 1 below", Flights.lay(x, Math.nextUp(999f), 0), GliderHouse.OUTSIDE);
        Check.due("just 1 below", Flights.lay(x, 999f, 0), 2);
        Check.refused(x, "below the first, not the one ahead", Flights.lay(x, Math.nextUp(998f), 0), GliderHouse.OUTSIDE);
        Check.due("more than 1 below", Flights.lay(x, Math.nextDown(998f), 0), 3);
        GliderHouse y = new GliderHouse();
        Flights.lay(y, Math.nextDown(1f), 0);
        Check.refused(y, "nothing is 1 below it", Flights.lay(y, 0f, 0), GliderHouse.OUTSIDE);
        GliderHouse z = new GliderHouse();
        Flights.lay(z, 1f, 0);
        Check.due("-0 is 1 below 1", Flights.lay(z, -0f, 0), 2);
        // 1 less these is 1 as a float, though not as a double
        float[] tiny = {Float.MIN_VALUE, Float.MIN_NORMAL, 1e-10f, 0x1p-25f};
        for (float p : tiny) {
            GliderHouse w = new GliderHouse();
            Flights.lay(w, 1f, 0);
            Check.due("1 below 1, as floats: " + p, Flights.lay(w, p, 0), 2);
        }
        GliderHouse w = new GliderHouse();
        Flights.lay(w, 1f, 0);
        Check.refused(w, "as floats, too, less than 1", Flights.lay(w, Math.nextUp(0x1p-25f), 0), GliderHouse.OUTSIDE);
    }

    private static void heightsAtTheirEnds() {
        Check.about("Promise 3", "A POINT more of THE TABLE, of floats: how many");
        GliderHouse x = new GliderHouse();
        float[] heights = {-1000f, Math.nextUp(-1000f), -0f, 0f, Math.nextDown(40000f), 40000f};
        for (int i = 0; i < heights.length; i++) {
            Check.due("height " + heights[i], Flights.lay(x, 1000 - i, heights[i]), i + 1);
        }
    }

    private static void heightsOutside() {
        Check.about("Promise 3", "the height is not a number -1000 .. 40000");
        GliderHouse x = new GliderHouse();
        int[] bits = {Check.bits(Math.nextDown(-1000f)), Check.bits(Math.nextUp(40000f)), 0x7F800000, 0xFF800000, 0x7FC00000, 0x7F800001, 0xFFC00000, -1};
        for (int h : bits) {
            Check.refused(x, "table(.., " + h + ")", x.table(Check.bits(1000f), h), GliderHouse.OUTSIDE);
        }
        Check.due("count(3)", x.count(3), 0);
    }

    private static GliderHouse fullTable() {
        GliderHouse x = new GliderHouse();
        for (int i = 0; i < 10; i++) {
            Check.due("POINT " + i, Flights.lay(x, 1000 - i, i), i + 1);
        }
        return x;
    }

    private static void tableFull() {
        Check.about("Promise 3", "the height is not a number -1000 .. 40000; FULL");
        GliderHouse x = fullTable();
        Check.refused(x, "the 11th", Flights.lay(x, 900f, 0), GliderHouse.FULL);
        Check.refused(x, "an 11th that is no number", x.table(0x7FC00000, 0), GliderHouse.OUTSIDE);
        Check.refused(x, "an 11th not 1 below the 10th", Flights.lay(x, 990.5f, 0), GliderHouse.OUTSIDE);
        Check.due("count(3)", x.count(3), 10);
    }

    private static void refusedPointLeavesTheTable() {
        Check.about("Terms answers", "These change nothing but STATUS");
        GliderHouse x = new GliderHouse();
        Flights.lay(x, 1000f, 0);
        Flights.lay(x, 500f, 41000f);
        Flights.lay(x, 3000f, 0);
        Check.due("1 below the one that was taken", Flights.lay(x, 999f, 0), 2);
    }

    private static void tableCleared() {
        Check.about("Promise 4", "THE TABLE has no POINTS: how many there were");
        GliderHouse x = new GliderHouse();
        Check.due("of none", x.clearTable(), 0);
        Check.due("status()", x.status(), 0);
        Flights.lay(x, 1f, 0);
        Check.due("of one", x.clearTable(), 1);
        Check.due("count(3)", x.count(3), 0);
        GliderHouse y = fullTable();
        Check.due("of ten", y.clearTable(), 10);
        Check.due("of none again", y.clearTable(), 0);
        Check.due("no POINT is ahead of the next one", Flights.lay(y, 2000f, 0), 1);
    }

    private static void ceilingsAtTheirEnds() {
        Check.about("Promise 5", "The ceiling of a day (0 .. 6) and a place (0 .. 3) in metres: 1");
        GliderHouse x = new GliderHouse();
        int told = 0;
        for (int day = 0; day <= 6; day++) {
            for (int place = 0; place <= 3; place++) {
                Check.due("ceiling", x.ceiling(day, place, (day + place) % 2 == 0 ? 0 : 100000), 1);
                told++;
                Check.due("count(9)", x.count(9), told);
            }
        }
        Check.due("status()", x.status(), 0);
    }

    private static void ceilingsOutside() {
        Check.about("Promise 5", "OUTSIDE: day, place, metres not 0 .. 100000");
        GliderHouse x = new GliderHouse();
        int low = Integer.MIN_VALUE;
        int high = Integer.MAX_VALUE;
        int[][] wrong = {{-1, 0, 5}, {7, 0, 5}, {low, 0, 5}, {high, 0, 5}, {0, -1, 5}, {0, 4, 5}, {0, low, 5}, {0, high, 5},
            {0, 0, -1}, {0, 0, 100001}, {0, 0, low}, {0, 0, high}};
        for (int[] w : wrong) {
            Check.refused(x, "ceiling(" + w[0] + ", " + w[1] + ", " + w[2] + ")", x.ceiling(w[0], w[1], w[2]), GliderHouse.OUTSIDE);
        }
        Check.due("count(9)", x.count(9), 0);
    }

    private static void ceilingToldAgain() {
        Check.about("Promise 48", "9 ceilings told");
        GliderHouse x = new GliderHouse();
        x.ceiling(3, 2, 10);
        Check.due("ceiling again", x.ceiling(3, 2, 20), 1);
        Check.due("it is one", x.count(9), 1);
        x.ceiling(3, 2, 100001);
        Check.due("a refused one is none", x.count(9), 1);
        Check.due("lack(3)", x.lack(3), 1);
        Check.due("none is left", x.count(9), 0);
    }

    private static void daysThatLack() {
        Check.about("Promise 6", "A day has no ceilings: how many it had");
        GliderHouse x = new GliderHouse();
        for (int place = 0; place <= 3; place++) {
            x.ceiling(0, place, 0);
            x.ceiling(6, place, 100000);
        }
        x.ceiling(3, 1, 7);
        Check.due("lack(0)", x.lack(0), 4);
        Check.due("lack(0) again", x.lack(0), 0);
        Check.due("status()", x.status(), 0);
        Check.due("lack(3)", x.lack(3), 1);
        Check.due("lack(6)", x.lack(6), 4);
        Check.due("lack(1), never told", x.lack(1), 0);
        Check.due("count(9)", x.count(9), 0);
        Check.due("told anew", x.ceiling(0, 3, 5), 1);
        Check.due("lack(0)", x.lack(0), 1);
    }

    private static void daysOutside() {
        Check.about("Promise 6", "how many it had. OUTSIDE");
        GliderHouse x = new GliderHouse();
        x.ceiling(0, 0, 1);
        x.ceiling(6, 3, 1);
        int[] days = {-1, 7, Integer.MIN_VALUE, Integer.MAX_VALUE};
        for (int day : days) {
            Check.refused(x, "lack(" + day + ")", x.lack(day), GliderHouse.OUTSIDE);
        }
        Check.due("count(9)", x.count(9), 2);
    }
}
