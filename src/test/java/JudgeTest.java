/** Promises 41 to 49: judging, engines, marks, parts, differences, counts and STATUS. */
public final class JudgeTest {
    public static void main(String[] args) {
        noCauses();
        gaps();
        noises();
        marks();
        ceilings();
        daysAndPlaces();
        noHeight();
        jumps();
        allCauses();
        judgeRefusals();
        engine();
        marksCounted();
        part();
        differ();
        differEdges();
        differAll();
        counts();
        status();
        Check.end("JudgeTest");
    }

    /** One BLOCK of n READINGS 10 s apart, at 900 hPa; THE TABLE says 1000 m there. */
    private static GliderHouse house(int n) {
        GliderHouse x = new GliderHouse();
        x.trace();
        x.here(0, 0, Check.bits(10.0), Check.bits(47.0), Check.bits(900f));
        x.fly(0, n, 10, 0, Check.bits(0.001), 0);
        x.table(Check.bits(1000f), Check.bits(0f));
        x.table(Check.bits(800f), Check.bits(2000f));
        for (int day = 0; day < 7; day++) {
            for (int place = 0; place < 4; place++) {
                x.ceiling(day, place, 1000);
            }
        }
        x.recorder(0, 0);
        x.recorder(1, 0);
        x.recorder(2, 0);
        return x;
    }

    private static void causes(GliderHouse x, int recorder, long... want) {
        x.read(recorder);
        Check.due("judge", x.judge(recorder), want.length / 2);
        Check.due("status", x.status(), 0);
        for (int k = 0; k < want.length / 2; k++) {
            Check.due("cause(" + k + ", 0)", x.cause(k, 0), want[2 * k]);
            Check.due("cause(" + k + ", 1)", x.cause(k, 1), want[2 * k + 1]);
        }
        Check.due("cause behind", x.cause(want.length / 2, 0), GliderHouse.UNKNOWN);
        Check.due("cause(-1, 0)", x.cause(-1, 0), GliderHouse.UNKNOWN);
        Check.due("cause(0, 2)", x.cause(0, 2), GliderHouse.UNKNOWN);
        Check.due("cause(0, -1)", x.cause(0, -1), GliderHouse.UNKNOWN);
    }

    private static void noCauses() {
        GliderHouse x = house(5);
        causes(x, 0);
        causes(x, 1);
        causes(x, 2);
        GliderHouse y = new GliderHouse();
        y.trace();
        y.recorder(0, 0);
        causes(y, 0);
    }

    private static void gaps() {
        GliderHouse x = house(5);
        x.setting(0, 10);
        causes(x, 0);
        x.setting(0, 9);
        causes(x, 0, 1, 10);
        x.setting(0, 60);
        x.set(0, 0, 0, 3, 91);
        x.set(0, 0, 0, 4, 152);
        causes(x, 0, 1, 30);
        x.set(0, 0, 0, 3, 90);
        causes(x, 0, 1, 90);
        x.set(0, 0, 0, 4, 89);
        causes(x, 0, 1, 90, 7, 89);
        x.set(0, 0, 0, 4, 90);
        causes(x, 0, 7, 90);
        // READINGS without a fix count, too
        GliderHouse y = house(3);
        y.set(0, 0, 1, 2, Check.bits(Double.NaN));
        y.setting(0, 15);
        causes(y, 0);
    }

    private static void noises() {
        GliderHouse x = house(4);
        x.set(0, 0, 3, 1, 500);
        x.set(0, 0, 3, 2, 501);
        causes(x, 1, 2, 30);
        causes(x, 0);
        x.setting(2, -1);
        causes(x, 1, 2, 10);
        x.setting(2, Integer.MAX_VALUE);
        causes(x, 1);
    }

    private static void marks() {
        GliderHouse x = house(4);
        x.set(0, 0, 4, 2, -1);
        causes(x, 2, 3, 30);
        causes(x, 0);
        causes(x, 1);
    }

    private static void ceilings() {
        GliderHouse x = house(4);
        x.ceiling(0, 2, 999);
        causes(x, 0, 4, 10);
        x.ceiling(0, 2, 1000);
        causes(x, 0);
        x.set(0, 0, 2, 2, Check.bits(899.9f));
        causes(x, 0, 4, 30);
        Check.due("ground", x.ground(0, 10), 1);
        causes(x, 0);
        x.ceiling(0, 2, 0);
        causes(x, 0, 4, 30);
        Check.due("ground", x.ground(0, 30), 1);
        causes(x, 0);
        x.lack(0);
        causes(x, 0, 5, 10);
        // what is not KEPT has no ceiling
        x.set(0, 0, 1, 0, Check.bits(Double.NaN));
        causes(x, 0, 5, 20);
    }

    private static void daysAndPlaces() {
        double[] longitudes = {-180, -90.00000000000001, -90, -0.0, 0, 89.99999999999999, 90, 180};
        int[] places = {0, 0, 1, 2, 2, 2, 3, 3};
        long[] moments = {0, 86399, 86400, 172800, 604799, 604800, 999999999999L};
        int[] days = {0, 0, 1, 2, 6, 0, (int) (999999999999L / 86400 % 7)};
        for (int i = 0; i < longitudes.length; i++) {
            for (int j = 0; j < moments.length; j++) {
                GliderHouse x = house(1);
                x.set(0, 0, 0, 0, moments[j]);
                x.set(0, 0, 1, 0, Check.bits(longitudes[i]));
                x.ceiling(days[j], places[i], 0);
                causes(x, 0, 4, moments[j]);
                x.ceiling(days[j], places[i], 1000);
                causes(x, 0);
                x.lack(days[j]);
                for (int place = 0; place < 4; place++) {
                    if (place != places[i]) {
                        x.ceiling(days[j], place, 5000);
                    }
                }
                causes(x, 0, 5, moments[j]);
            }
        }
    }

    private static void noHeight() {
        GliderHouse x = house(4);
        x.set(0, 0, 2, 2, Check.bits(1000.1f));
        causes(x, 0, 6, 30);
        x.row(0, 0, 2, 0);
        causes(x, 0, 6, 10);
        GliderHouse y = house(4);
        y.clearTable();
        causes(y, 0, 6, 10);
    }

    private static void jumps() {
        GliderHouse x = house(4);
        x.set(0, 0, 1, 2, Check.bits(11.0));
        causes(x, 0, 7, 20);
        x.set(0, 0, 1, 2, Check.bits(Double.NaN));
        causes(x, 0);
    }

    private static void allCauses() {
        GliderHouse x = house(6);
        x.setting(0, 9);
        x.set(0, 0, 3, 5, 9999);
        x.set(0, 0, 4, 4, -4);
        x.set(0, 0, 2, 1, Check.bits(0f));
        x.set(0, 0, 2, 3, Check.bits(850f));
        x.set(0, 0, 1, 4, Check.bits(40.0));
        x.trace();
        x.here(1, 0, Check.bits(10.0), Check.bits(47.0), Check.bits(900f));
        x.fly(1, 6, 10, 0, 0, 0);
        x.set(1, 0, 4, 4, -4);
        x.lack(0);
        x.ceiling(0, 2, 1400);
        x.recorder(2, 1);
        x.doubled(1, 3);
        x.read(1);
        x.read(3);
        causes(x, 4, 1, 10, 2, 60, 3, 50, 4, 40, 6, 20, 7, 30);
        x.lack(0);
        causes(x, 4, 1, 10, 2, 60, 3, 50, 5, 10, 6, 20, 7, 30);
    }

    private static void judgeRefusals() {
        GliderHouse x = house(2);
        x.setting(0, 9);
        causes(x, 0, 1, 10);
        Check.refused(x, "judge UNKNOWN", x.judge(3), GliderHouse.UNKNOWN);
        Check.refused(x, "judge UNKNOWN", x.judge(-1), GliderHouse.UNKNOWN);
        Check.refused(x, "judge STATE", x.judge(1), GliderHouse.STATE);
        Check.due("the latest stays", x.cause(0, 0), 1);
        x.cause(5, 5);
        Check.due("cause() leaves STATUS", x.status(), GliderHouse.STATE);
    }

    private static void engine() {
        GliderHouse x = house(4);
        Check.refused(x, "engine UNKNOWN", x.engine(3), GliderHouse.UNKNOWN);
        Check.refused(x, "PLAIN", x.engine(0), GliderHouse.NOT_THAT);
        Check.refused(x, "NET", x.engine(2), GliderHouse.NOT_THAT);
        Check.refused(x, "engine STATE", x.engine(1), GliderHouse.STATE);
        int[] noises = {-2, -3, -4, -9};
        for (int i = 0; i < 4; i++) {
            x.set(0, 0, 3, i, noises[i]);
        }
        x.read(1);
        Check.due("engine", x.engine(1), -2);
        x.set(0, 0, 3, 0, -5);
        x.read(1);
        Check.due("engine", x.engine(1), -3);
        Check.due("status", x.status(), 0);
        x.set(0, 0, 3, 3, Integer.MAX_VALUE);
        Check.due("as it was READ", x.engine(1), -3);
        x.read(1);
        Check.due("engine", x.engine(1), Integer.MAX_VALUE);
        x.row(0, 0, 3, -1);
        x.read(1);
        Check.due("none", x.engine(1), GliderHouse.NONE);
        Check.due("NONE is no refusal", x.status(), 0);
        x.doubled(1, 2);
        Check.refused(x, "DOUBLED", x.engine(3), GliderHouse.NOT_THAT);
    }

    private static void marksCounted() {
        GliderHouse x = house(5);
        Check.refused(x, "marks UNKNOWN", x.marks(3, 1), GliderHouse.UNKNOWN);
        Check.refused(x, "PLAIN", x.marks(0, 1), GliderHouse.NOT_THAT);
        Check.refused(x, "MOTOR", x.marks(1, 1), GliderHouse.NOT_THAT);
        Check.refused(x, "marks STATE", x.marks(2, 1), GliderHouse.STATE);
        x.set(0, 0, 4, 0, -128);
        x.set(0, 0, 4, 3, 0);
        x.read(2);
        Check.due("marks -128", x.marks(2, -128), 1);
        Check.due("marks 1", x.marks(2, 1), 2);
        Check.due("marks 0", x.marks(2, 0), 0);
        Check.due("marks 128", x.marks(2, 128), 0);
        Check.due("status", x.status(), 0);
    }

    private static void part() {
        GliderHouse x = house(1);
        x.doubled(2, 0);
        Check.due("part", x.part(3, 0), 2);
        Check.due("part", x.part(3, 1), 0);
        Check.due("status", x.status(), 0);
        Check.refused(x, "part UNKNOWN", x.part(4, 9), GliderHouse.UNKNOWN);
        Check.refused(x, "part UNKNOWN", x.part(-1, 0), GliderHouse.UNKNOWN);
        Check.refused(x, "part OUTSIDE", x.part(3, 2), GliderHouse.OUTSIDE);
        Check.refused(x, "OUTSIDE ahead of NOT THAT", x.part(0, -1), GliderHouse.OUTSIDE);
        Check.refused(x, "NOT THAT", x.part(0, 0), GliderHouse.NOT_THAT);
    }

    private static void lacks(GliderHouse x, long first, long one, long two) {
        Check.due("lacks(0)", x.lacks(0), first);
        Check.due("lacks(1)", x.lacks(1), one);
        Check.due("lacks(2)", x.lacks(2), two);
    }

    private static void differ() {
        GliderHouse x = house(5);
        x.trace();
        x.here(1, 0, Check.bits(10.0), Check.bits(47.0), Check.bits(900f));
        x.fly(1, 5, 10, 0, Check.bits(0.001), 0);
        x.recorder(0, 1);
        x.setting(1, 100000);
        x.set(1, 0, 1, 5, Check.bits(47.1));
        x.set(1, 0, 1, 7, Check.bits(47.1));
        x.set(1, 0, 0, 4, 55);
        x.read(0);
        x.read(3);
        Check.due("differ", x.differ(0, 3), 2);
        lacks(x, 30, 1, 1);
        x.set(1, 0, 1, 0, Check.bits(Double.NaN));
        x.read(3);
        Check.due("differ", x.differ(0, 3), 2);
        lacks(x, 30, 2, 1);
        Check.due("the other way", x.differ(3, 0), 2);
        lacks(x, 30, 1, 2);
        Check.due("itself", x.differ(0, 0), 0);
        lacks(x, GliderHouse.NONE, 0, 0);
    }

    private static void differEdges() {
        GliderHouse x = house(3);
        x.trace();
        x.here(1, 0, Check.bits(10.0), Check.bits(47.0), Check.bits(900f));
        x.fly(1, 3, 10, 0, Check.bits(0.001), 0);
        x.recorder(0, 1);
        x.set(1, 0, 1, 3, Check.bits(47.0021));
        Check.refused(x, "differ UNKNOWN", x.differ(4, 0), GliderHouse.UNKNOWN);
        Check.refused(x, "UNKNOWN ahead of STATE", x.differ(0, 4), GliderHouse.UNKNOWN);
        Check.refused(x, "differ STATE", x.differ(0, 3), GliderHouse.STATE);
        x.read(0);
        Check.refused(x, "differ STATE", x.differ(0, 3), GliderHouse.STATE);
        Check.refused(x, "differ STATE", x.differ(3, 0), GliderHouse.STATE);
        x.read(3);
        // 0.0001 degrees are 11.13 m
        x.setting(3, 12);
        Check.due("differ", x.differ(0, 3), 0);
        lacks(x, GliderHouse.NONE, 0, 0);
        x.setting(3, 11);
        Check.due("differ", x.differ(0, 3), 1);
        lacks(x, 20, 0, 0);
        x.differ(0, 9);
        lacks(x, 20, 0, 0);
        Check.due("lacks(3)", x.lacks(3), GliderHouse.UNKNOWN);
        Check.due("lacks(-1)", x.lacks(-1), GliderHouse.UNKNOWN);
        x.setting(3, 0);
        Check.due("DIFFER 0: equal fixes do not", x.differ(0, 3), 1);
        x.set(1, 0, 0, 0, 20);
        x.set(1, 0, 0, 1, 20);
        x.set(1, 0, 0, 2, 20);
        x.read(3);
        Check.due("of the moment the KEPT one alone", x.differ(0, 3), 1);
        lacks(x, 20, 2, 0);
    }

    /** As many KEPT ones as there can be, with none of the first one's moments in the other. */
    private static void differAll() {
        GliderHouse x = new GliderHouse();
        for (int t = 0; t < 2; t++) {
            x.trace();
            x.here(t, 1000000 - 1000000 * t, 0, 0, 0);
            for (int b = 0; b < 8; b++) {
                x.fly(t, 24, 10, 0, 0, 0);
            }
            x.recorder(0, t);
            x.read(t);
        }
        Check.due("differ", x.differ(0, 1), 0);
        lacks(x, GliderHouse.NONE, 192, 192);
        Check.due("differ", x.differ(1, 0), 0);
        lacks(x, GliderHouse.NONE, 192, 192);
        Check.due("differ", x.differ(1, 1), 0);
        lacks(x, GliderHouse.NONE, 0, 0);
    }

    private static void counts() {
        GliderHouse x = house(3);
        x.read(0);
        x.point(1, 0, 0, 5, 0);
        x.export(0);
        int[] want = {1, 3, 1, 2, 0, 1, 1, 0, 2 + 5 + 3 * 33 + 1, 28};
        for (int what = 0; what < 10; what++) {
            Check.due("count(" + what + ")", x.count(what), want[what]);
        }
        Check.due("count(10)", x.count(10), GliderHouse.OUTSIDE);
        Check.due("count(-1)", x.count(-1), GliderHouse.OUTSIDE);
        Check.due("count() leaves STATUS", x.status(), 0);
    }

    private static void status() {
        GliderHouse x = house(2);
        Check.due("status", x.status(), 0);
        x.lack(9);
        Check.due("status", x.status(), GliderHouse.OUTSIDE);
        x.out(0);
        x.finding(0, 0);
        x.corner(0);
        x.reached(0);
        x.taskWay();
        x.cause(0, 0);
        x.lacks(9);
        x.count(99);
        x.status();
        Check.due("these leave it", x.status(), GliderHouse.OUTSIDE);
        x.size(0, 0, 0);
        Check.due("another call does not", x.status(), 0);
        x.read(0);
        x.engine(0);
        Check.due("status", x.status(), GliderHouse.NOT_THAT);
        x.clearTask();
        Check.due("status", x.status(), 0);
        Check.due("NONE", GliderHouse.NONE, -1);
        Check.due("UNKNOWN", GliderHouse.UNKNOWN, -2);
        Check.due("OUTSIDE", GliderHouse.OUTSIDE, -3);
        Check.due("STATE", GliderHouse.STATE, -4);
        Check.due("FULL", GliderHouse.FULL, -5);
        Check.due("LOST", GliderHouse.LOST, -11);
        Check.due("BEYOND", GliderHouse.BEYOND, -12);
        Check.due("NOT_THAT", GliderHouse.NOT_THAT, -13);
        Check.due("SIZE", GliderHouse.SIZE, -14);
        Check.due("SPENT", GliderHouse.SPENT, -15);
    }
}
