/** Promises 21 to 25: RECORDERS, READING, findings, what is KEPT, REFUSALS MET. */
public final class RecordersTest {
    private static final int LOST = 1, BEYOND = 2, SHARED = 3, MOMENT = 4, FIX = 5, JUMP = 6;

    public static void main(String[] args) {
        recorders();
        doubled();
        readOrdinary();
        refusals();
        readingWhats();
        lostAndShort();
        momentsAndFixes();
        shiftAndMarks();
        jumps();
        jumpEdges();
        blocksGoOn();
        doubledFills();
        doubledAnew();
        findingsKept();
        spent();
        spentInMidst();
        Check.end("RecordersTest");
    }

    /** A TRACE 0 of one BLOCK of n READINGS, 10 s apart, each a little further north. */
    private static GliderHouse flown(int n) {
        GliderHouse x = new GliderHouse();
        x.trace();
        x.here(0, 1000, Check.bits(10.0), Check.bits(47.0), Check.bits(900f));
        x.fly(0, n, 10, 0, Check.bits(0.001), Check.bits(-1f));
        return x;
    }

    private static void found(GliderHouse x, int... want) {
        Check.due("findings", x.count(4), want.length / 3);
        for (int k = 0; k < want.length / 3; k++) {
            for (int what = 0; what < 3; what++) {
                Check.due("finding(" + k + ", " + what + ")", x.finding(k, what), want[3 * k + what]);
            }
        }
        Check.due("finding behind", x.finding(want.length / 3, 0), GliderHouse.UNKNOWN);
    }

    private static void recorders() {
        GliderHouse x = new GliderHouse();
        Check.refused(x, "OUTSIDE first", x.recorder(3, 0), GliderHouse.OUTSIDE);
        Check.refused(x, "no TRACE", x.recorder(0, 0), GliderHouse.UNKNOWN);
        x.trace();
        Check.refused(x, "kind -1", x.recorder(-1, 0), GliderHouse.OUTSIDE);
        Check.refused(x, "TRACE 1", x.recorder(2, 1), GliderHouse.UNKNOWN);
        Check.refused(x, "TRACE -1", x.recorder(2, -1), GliderHouse.UNKNOWN);
        for (int i = 0; i < 8; i++) {
            Check.due("recorder", x.recorder(i % 3, 0), i);
            Check.due("count(1)", x.count(1), i + 1);
        }
        Check.refused(x, "FULL", x.recorder(0, 0), GliderHouse.FULL);
        Check.refused(x, "UNKNOWN ahead of FULL", x.recorder(0, 9), GliderHouse.UNKNOWN);
        Check.refused(x, "doubled FULL", x.doubled(0, 1), GliderHouse.FULL);
        Check.refused(x, "OUTSIDE ahead of FULL", x.doubled(1, 1), GliderHouse.OUTSIDE);
    }

    private static void doubled() {
        GliderHouse x = flown(2);
        Check.refused(x, "none", x.doubled(0, 1), GliderHouse.UNKNOWN);
        x.recorder(0, 0);
        Check.refused(x, "one", x.doubled(0, 1), GliderHouse.UNKNOWN);
        Check.refused(x, "one", x.doubled(-1, 0), GliderHouse.UNKNOWN);
        Check.refused(x, "both are one", x.doubled(0, 0), GliderHouse.OUTSIDE);
        x.recorder(1, 0);
        Check.due("doubled", x.doubled(1, 0), 2);
        Check.refused(x, "first is DOUBLED", x.doubled(2, 0), GliderHouse.OUTSIDE);
        Check.refused(x, "second is DOUBLED", x.doubled(0, 2), GliderHouse.OUTSIDE);
        Check.refused(x, "UNKNOWN ahead of OUTSIDE", x.doubled(2, 7), GliderHouse.UNKNOWN);
        Check.due("part", x.part(2, 0), 1);
        Check.due("part", x.part(2, 1), 0);
        Check.refused(x, "STATE", x.read(2), GliderHouse.STATE);
        x.read(1);
        Check.refused(x, "STATE of the second", x.read(2), GliderHouse.STATE);
        x.read(0);
        Check.due("read", x.read(2), 2);
        GliderHouse y = flown(2);
        y.recorder(0, 0);
        y.recorder(0, 0);
        y.doubled(0, 1);
        y.read(1);
        Check.refused(y, "STATE of the first", y.read(2), GliderHouse.STATE);
    }

    private static void readOrdinary() {
        for (int kind = 0; kind < 3; kind++) {
            GliderHouse x = flown(5);
            x.recorder(kind, 0);
            Check.due("read", x.read(0), 5);
            Check.due("status", x.status(), 0);
            found(x);
            for (int k = 0; k < 5; k++) {
                Check.due("moment", x.reading(0, k, 0), 1010 + 10 * k);
                Check.due("kept", x.reading(0, k, 6), 1);
                Check.due("item", x.reading(0, k, 8), k);
                Check.due("has", x.reading(0, k, 9), new int[] {3, 7, 11}[kind]);
                Check.due("mark", x.reading(0, k, 5), kind == 2 ? 1 : 0);
            }
            Check.due("opened", x.count(5), 1);
            Check.due("closed", x.count(6), 1);
            Check.due("met", x.count(7), 0);
        }
        GliderHouse x = new GliderHouse();
        x.trace();
        x.recorder(0, 0);
        Check.due("no BLOCKS", x.read(0), 0);
        Check.due("opened", x.count(5), 0);
    }

    private static void refusals() {
        GliderHouse x = flown(3);
        Check.refused(x, "read UNKNOWN", x.read(0), GliderHouse.UNKNOWN);
        x.recorder(0, 0);
        Check.refused(x, "read UNKNOWN", x.read(1), GliderHouse.UNKNOWN);
        Check.refused(x, "read UNKNOWN", x.read(-1), GliderHouse.UNKNOWN);
        Check.refusedAs(x, "reading UNKNOWN", x.reading(1, 0, 0), 0, GliderHouse.UNKNOWN);
        Check.refusedAs(x, "reading STATE", x.reading(0, 0, 0), 0, GliderHouse.STATE);
        Check.refusedAs(x, "STATE ahead of READINGS", x.reading(0, 99, 99), 0, GliderHouse.STATE);
        x.read(0);
        Check.refusedAs(x, "READING 3", x.reading(0, 3, 0), 0, GliderHouse.UNKNOWN);
        Check.refusedAs(x, "READING -1", x.reading(0, -1, 0), 0, GliderHouse.UNKNOWN);
        Check.refusedAs(x, "what 10", x.reading(0, 0, 10), 0, GliderHouse.UNKNOWN);
        Check.refusedAs(x, "what -1", x.reading(0, 0, -1), 0, GliderHouse.UNKNOWN);
        Check.due("what it has not", x.reading(0, 0, 4), 0);
        Check.due("is no refusal", x.status(), 0);
        x.read(9);
        Check.due("finding(0, 3)", x.finding(0, 3), GliderHouse.UNKNOWN);
        Check.due("finding(-1, 0)", x.finding(-1, 0), GliderHouse.UNKNOWN);
        Check.due("finding() leaves STATUS", x.status(), GliderHouse.UNKNOWN);
    }

    private static void readingWhats() {
        GliderHouse x = new GliderHouse();
        x.trace();
        x.fly(0, 1, 1, 0, 0, 0);
        x.here(0, 500, Check.bits(-0.0), Check.bits(-33.5), Check.bits(800.5f));
        x.fly(0, 2, 10, Check.bits(-0.0), 0, 0);
        x.set(0, 1, 3, 1, -7);
        x.set(0, 1, 4, 1, -9);
        x.set(0, 1, 2, 1, 0x7F800055L);
        x.recorder(0, 0);
        x.recorder(1, 0);
        x.recorder(2, 0);
        for (int r = 0; r < 3; r++) {
            x.setting(1, 100000);
            x.read(r);
            long[] want = {520, Check.bits(-0.0), Check.bits(-33.5), 0x7FC00000, r == 1 ? -7 : 0, r == 2 ? -9 : 0, 1, 1, 1, new int[] {3, 7, 11}[r]};
            for (int what = 0; what < 10; what++) {
                Check.due("reading(" + r + ", 2, " + what + ")", x.reading(r, 2, what), want[what]);
            }
        }
        x.set(0, 1, 0, 1, 600);
        Check.due("as it was READ", x.reading(0, 2, 0), 520);
        x.read(0);
        Check.due("READ anew", x.reading(0, 2, 0), 600);
    }

    private static void lostAndShort() {
        GliderHouse x = flown(6);
        x.row(0, 0, 1, 5);
        x.row(0, 0, 2, 3);
        x.row(0, 0, 3, -1);
        x.row(0, 0, 4, 4);
        for (int i = 0; i < 4; i++) {
            x.set(0, 0, 4, i, 1);
        }
        x.recorder(0, 0);
        x.recorder(1, 0);
        x.recorder(2, 0);
        Check.due("PLAIN", x.read(0), 6);
        found(x, BEYOND, 0, 2, BEYOND, 0, 3);
        int[] plain = {3, 3, 2, 0, 0, 0};
        for (int k = 0; k < 6; k++) {
            Check.due("has", x.reading(0, k, 9), plain[k]);
        }
        Check.due("MOTOR", x.read(1), 6);
        found(x, LOST, 0, 0, BEYOND, 0, 2, BEYOND, 0, 3);
        Check.due("NET", x.read(2), 4);
        found(x, BEYOND, 0, 2, BEYOND, 0, 3, BEYOND, 0, 4);
        Check.due("met", x.count(7), 8);
        x.row(0, 0, 1, -1);
        x.row(0, 0, 2, -1);
        Check.due("MOTOR", x.read(1), 6);
        found(x, LOST, 0, 0, LOST, 0, 0, LOST, 0, 0);
        Check.due("has nothing", x.reading(1, 3, 9), 0);
        Check.due("not kept", x.reading(1, 0, 6), 0);
        Check.due("no fix", x.reading(1, 0, 1), 0);
        x.row(0, 0, 4, -1);
        Check.due("NET", x.read(2), 0);
        found(x, LOST, 0, 0);
        x.row(0, 0, 0, 0);
        Check.due("no MOMENTS", x.read(2), 0);
        found(x);
        x.row(0, 0, 0, -1);
        Check.due("MOMENTS LOST", x.read(2), 0);
        found(x, LOST, 0, -1);
        Check.due("opened", x.count(5), 7);
        Check.due("closed", x.count(6), 7);
    }

    private static void momentsAndFixes() {
        GliderHouse x = flown(6);
        x.setting(1, 100000);
        long[] moments = {-1, 0, 999999999999L, 1000000000000L, Long.MAX_VALUE, Long.MIN_VALUE};
        for (int i = 0; i < 6; i++) {
            x.set(0, 0, 0, i, moments[i]);
        }
        x.row(0, 0, 2, 1);
        x.recorder(0, 0);
        Check.due("read", x.read(0), 2);
        found(x, MOMENT, 0, 0, BEYOND, 0, 1, MOMENT, 0, 3, MOMENT, 0, 4, MOMENT, 0, 5);
        Check.due("MOMENT is no REFUSAL", x.count(7), 1);
        Check.due("item", x.reading(0, 0, 8), 1);
        Check.due("moment", x.reading(0, 1, 0), 999999999999L);
        double[][] fixes = {{180, 90}, {-180, -90}, {Math.nextUp(180.0), 0}, {0, -Math.nextUp(90.0)}, {Double.NaN, 0}, {0, Double.NEGATIVE_INFINITY}};
        GliderHouse y = flown(6);
        y.setting(1, 100000);
        for (int i = 0; i < 6; i++) {
            y.set(0, 0, 0, i, 100000L * i);
            y.set(0, 0, 1, 2 * i, Check.bits(fixes[i][0]));
            y.set(0, 0, 1, 2 * i + 1, Check.bits(fixes[i][1]));
        }
        y.recorder(0, 0);
        Check.due("read", y.read(0), 6);
        found(y, FIX, 0, 2, FIX, 0, 3, FIX, 0, 4, FIX, 0, 5);
        Check.due("FIX is no REFUSAL", y.count(7), 0);
        Check.due("has", y.reading(0, 1, 9), 3);
        Check.due("has", y.reading(0, 2, 9), 2);
    }

    private static void shiftAndMarks() {
        GliderHouse x = flown(6);
        int[] marks = {1, -1, 7, -7, 127, -128};
        for (int i = 0; i < 6; i++) {
            x.set(0, 0, 4, i, marks[i]);
        }
        x.recorder(0, 0);
        x.recorder(2, 0);
        x.setting(4, -100);
        x.read(0);
        x.read(1);
        for (int i = 0; i < 6; i++) {
            Check.due("PLAIN", x.reading(0, i, 0), 1010 + 10 * i - 100);
            Check.due("NET", x.reading(1, i, 0), 1010 + 10 * i + -100 / marks[i]);
        }
        x.set(0, 0, 4, 3, 0);
        x.row(0, 0, 1, -1);
        Check.due("NET", x.read(1), 3);
        found(x, LOST, 0, 0, SHARED, 0, 3);
        Check.due("SHARED is a REFUSAL", x.count(7), 2);
        x.setting(4, -1000000);
        Check.due("all too early", x.read(0), 0);
        found(x, MOMENT, 0, 0, MOMENT, 0, 1, MOMENT, 0, 2, MOMENT, 0, 3, MOMENT, 0, 4, MOMENT, 0, 5);
    }

    private static void jumps() {
        GliderHouse x = flown(6);
        // 0.001 degrees are some 111.3 m in 10 s; item 2 is far off, item 4 at the moment of item 3, item 5 without a fix
        x.set(0, 0, 1, 4, Check.bits(11.0));
        x.set(0, 0, 0, 4, 1040);
        x.set(0, 0, 1, 10, Check.bits(200.0));
        x.row(0, 0, 2, 2);
        x.recorder(0, 0);
        x.read(0);
        found(x, JUMP, 0, 2, BEYOND, 0, 2, JUMP, 0, 4, FIX, 0, 5);
        int[] kept = {1, 1, 0, 1, 0, 0};
        for (int k = 0; k < 6; k++) {
            Check.due("kept " + k, x.reading(0, k, 6), kept[k]);
        }
        Check.due("one that JUMPS has its fix", x.reading(0, 2, 1), Check.bits(11.0));
        x.setting(1, 11);
        x.read(0);
        int[] slower = {1, 0, 0, 1, 0, 0};
        Check.due("JUMP 11: the way of 20 s is allowed behind 30 s only", x.reading(0, 3, 6), 0);
        for (int k = 0; k < 3; k++) {
            Check.due("kept " + k, x.reading(0, k, 6), slower[k]);
        }
        x.setting(1, 12);
        x.read(0);
        Check.due("JUMP 12", x.reading(0, 1, 6), 1);
    }

    private static void jumpEdges() {
        // u is 0 and v a degree's metres: JUMP times the seconds is held against the WAY as a double
        GliderHouse x = new GliderHouse();
        x.trace();
        x.block(0);
        x.row(0, 0, 0, 3);
        x.row(0, 0, 1, 6);
        x.row(0, 0, 2, 3);
        double lat = 200.0 / 111319.49079327358;
        x.set(0, 0, 0, 1, 2);
        x.set(0, 0, 1, 3, Check.bits(lat));
        x.set(0, 0, 0, 2, 1);
        x.recorder(0, 0);
        x.read(0);
        boolean more = lat * 111319.49079327358 > 200.0;
        Check.due("the WAY is JUMP times the seconds", x.reading(0, 1, 6), more ? 0 : 1);
        Check.due("1 s earlier JUMPS", x.reading(0, 2, 6), more ? 1 : 0);
        x.set(0, 0, 1, 3, Check.bits(lat * 1.000001));
        x.read(0);
        Check.due("a little more", x.reading(0, 1, 6), 0);
        Check.due("1 s behind the one KEPT", x.reading(0, 2, 6), 1);
        x.set(0, 0, 0, 2, 0);
        x.read(0);
        Check.due("0 s behind", x.reading(0, 2, 6), 0);
        found(x, JUMP, 0, 1, JUMP, 0, 2);
        Check.due("JUMP is no REFUSAL", x.count(7), 0);
    }

    private static void blocksGoOn() {
        GliderHouse x = flown(3);
        x.fly(0, 3, 10, 0, Check.bits(0.001), 0);
        x.fly(0, 3, 10, 0, Check.bits(1.0), 0);
        x.row(0, 0, 2, 0);
        x.row(0, 1, 0, -1);
        x.recorder(0, 0);
        Check.due("read", x.read(0), 6);
        found(x, BEYOND, 0, 0, LOST, 1, -1, JUMP, 2, 0, JUMP, 2, 1, JUMP, 2, 2);
        Check.due("pressures of the next BLOCK", x.reading(0, 3, 9), 3);
        Check.due("BLOCK", x.reading(0, 3, 7), 2);
        Check.due("item", x.reading(0, 3, 8), 0);
        Check.due("opened", x.count(5), 3);
        Check.due("closed", x.count(6), 3);
    }

    private static void doubledFills() {
        GliderHouse x = flown(4);
        x.trace();
        x.here(1, 1000, Check.bits(10.0), Check.bits(47.0), Check.bits(500f));
        x.fly(1, 4, 10, 0, Check.bits(0.001), 0);
        x.set(0, 0, 1, 2, Check.bits(Double.NaN));
        x.row(0, 0, 2, 2);
        x.set(0, 0, 2, 0, Check.bits(899f));
        x.set(1, 0, 3, 0, 44);
        x.set(1, 0, 0, 3, 9999);
        // the second part's first READING of 1020 has no fix, its later one has
        x.fly(1, 1, 0, 0, 0, 0);
        x.set(1, 1, 0, 0, 1020);
        x.set(1, 0, 1, 2, Check.bits(Double.NaN));
        x.recorder(2, 0);
        x.recorder(1, 1);
        x.doubled(0, 1);
        x.read(0);
        x.read(1);
        int opened = x.count(5);
        Check.due("read", x.read(2), 4);
        found(x);
        Check.due("no READERS", x.count(5), opened);
        int[] has = {15, 14, 15, 9};
        for (int k = 0; k < 4; k++) {
            Check.due("has " + k, x.reading(2, k, 9), has[k]);
        }
        Check.due("its own pressure", x.reading(2, 0, 3), Check.bits(899f));
        Check.due("the other's noise", x.reading(2, 0, 4), 44);
        Check.due("the other's pressure", x.reading(2, 2, 3), Check.bits(500f));
        Check.due("its own mark", x.reading(2, 0, 5), 1);
        x.set(1, 0, 1, 2, Check.bits(10.0));
        x.read(1);
        Check.due("as it was READ", x.reading(2, 1, 9), 14);
        x.read(2);
        Check.due("READ anew", x.reading(2, 1, 9), 15);
        Check.due("KEPT anew", x.reading(2, 1, 6), 1);
    }

    private static void doubledAnew() {
        GliderHouse x = flown(3);
        x.trace();
        x.here(1, 1000, Check.bits(50.0), Check.bits(47.0), Check.bits(500f));
        x.fly(1, 3, 10, 0, 0, 0);
        x.set(0, 0, 1, 0, Check.bits(Double.NaN));
        x.recorder(0, 0);
        x.recorder(0, 1);
        x.doubled(0, 1);
        x.read(0);
        x.read(1);
        Check.due("first", x.reading(0, 1, 6), 1);
        x.read(2);
        found(x, JUMP, 0, 1, JUMP, 0, 2);
        Check.due("the filled one is KEPT", x.reading(2, 0, 6), 1);
        Check.due("its followers JUMP", x.reading(2, 1, 6), 0);
        Check.due("the part's own stay", x.reading(0, 1, 6), 1);
    }

    private static void findingsKept() {
        GliderHouse x = new GliderHouse();
        x.trace();
        for (int b = 0; b < 4; b++) {
            x.fly(0, 24, 0, 0, 0, 0);
        }
        x.recorder(0, 0);
        x.read(0);
        Check.due("all are counted", x.count(4), 95);
        Check.due("finding(63, 0)", x.finding(63, 0), JUMP);
        Check.due("finding(63, 1)", x.finding(63, 1), 2);
        Check.due("finding(63, 2)", x.finding(63, 2), 16);
        Check.due("finding(64, 0)", x.finding(64, 0), GliderHouse.UNKNOWN);
        x.read(5);
        Check.due("a refused one leaves them", x.count(4), 95);
        Check.due("a refused one leaves them", x.finding(0, 2), 1);
    }

    /** A MOTOR's TRACE whose 8 BLOCKS meet n REFUSALS each, n being 1 to 3. */
    private static GliderHouse lossy(int n) {
        GliderHouse x = new GliderHouse();
        x.trace();
        for (int b = 0; b < 8; b++) {
            x.fly(0, 2, 1, 0, 0, 0);
            for (int kind = 1; kind <= n; kind++) {
                x.row(0, b, kind, -1);
            }
        }
        x.recorder(1, 0);
        return x;
    }

    private static void spent() {
        GliderHouse x = lossy(2);
        x.recorder(0, 0);
        x.read(1);
        x.doubled(0, 1);
        for (int i = 1; i < 249; i++) {
            Check.due("read", x.read(0), 16);
        }
        Check.due("met", x.count(7), 3984);
        int findings = x.count(4);
        Check.due("finding(0, 3)", x.finding(0, 3), GliderHouse.UNKNOWN);
        Check.due("finding(0, -1)", x.finding(0, -1), GliderHouse.UNKNOWN);
        x.row(0, 0, 0, 1);
        x.row(0, 0, 2, 0);
        x.row(0, 1, 2, 0);
        Check.refused(x, "the 4000th", x.read(0), GliderHouse.SPENT);
        Check.due("met", x.count(7), 4000);
        Check.due("opened", x.count(5), 2000);
        Check.due("closed", x.count(6), 2000);
        Check.due("findings stay", x.count(4), findings);
        Check.due("findings stay", x.finding(1, 0), LOST);
        Check.due("findings stay", x.finding(1, 1), 0);
        Check.due("what was READ stays", x.reading(0, 15, 0), 16);
        Check.refused(x, "FULL", x.read(0), GliderHouse.FULL);
        Check.refused(x, "FULL of a DOUBLED one", x.read(2), GliderHouse.FULL);
        Check.refused(x, "UNKNOWN ahead of FULL", x.read(3), GliderHouse.UNKNOWN);
        Check.due("opened", x.count(5), 2000);
        x.recorder(0, 0);
        x.doubled(0, 3);
        Check.refused(x, "STATE ahead of FULL", x.read(4), GliderHouse.STATE);
        Check.refusedAs(x, "never READ", x.reading(3, 0, 0), 0, GliderHouse.STATE);
    }

    private static void spentInMidst() {
        GliderHouse x = lossy(3);
        for (int i = 0; i < 166; i++) {
            Check.due("read", x.read(0), 16);
        }
        // 3984 were MET; BLOCKS 0 to 4 meet 15, and the first of BLOCK 5 is the 4000th
        Check.refused(x, "SPENT", x.read(0), GliderHouse.SPENT);
        Check.due("met", x.count(7), 4000);
        Check.due("opened", x.count(5), 166 * 8 + 6);
        Check.due("closed", x.count(6), 166 * 8 + 6);
        GliderHouse y = lossy(3);
        for (int b = 0; b < 8; b++) {
            y.row(0, b, 3, 2);
        }
        for (int i = 0; i < 249; i++) {
            y.read(0);
        }
        for (int b = 1; b < 8; b++) {
            y.row(0, b, 1, 4);
            y.row(0, b, 2, 2);
        }
        for (int i = 0; i < 7; i++) {
            Check.due("read", y.read(0), 16);
        }
        Check.due("met", y.count(7), 3998);
        y.row(0, 0, 2, 2);
        Check.due("3999 are not too many", y.read(0), 16);
        Check.refused(y, "SPENT", y.read(0), GliderHouse.SPENT);
    }
}
