/** The edges of HERE, of what is WRITTEN and of what is read back: promises 13 to 20. */
public final class EdgesWrittenTest {
    private static final long START = 1469598103934665603L, FACTOR = 1099511628211L;

    public static void main(String[] args) {
        hereAtFirst();
        hereAtItsEnds();
        hereOutside();
        hereUnknown();
        refusedHereStays();
        flyAtItsEnds();
        flyOutside();
        flyUnknownAndFull();
        refusedFlyStays();
        flyGoesBeyond();
        writtenWithoutBlocks();
        writtenLostAndEmpty();
        writtenEightBlocks();
        writtenLongest();
        writtenHighestFirst();
        exportUnknown();
        outAtItsEnds();
        alterAtItsEnds();
        cutAtItsEnds();
        cutOutside();
        backFull();
        backOfNothing();
        backFirstByte();
        backBlocks();
        backRows();
        backEnds();
        backEndsAheadOfASumOfZero();
        backSum();
        backByteBehind();
        backFirstOfSeveral();
        backHere();
        digests();
        Check.end("EdgesWrittenTest");
    }

    private static void hereAtFirst() {
        Check.about("Terms 1", "HERE of a TRACE is a moment, longitude, latitude, pressure (all 0 at first)");
        GliderHouse x = new GliderHouse();
        x.trace();
        x.fly(0, 1, 0, 0, 0, 0);
        for (int kind = 0; kind < 4; kind++) {
            Check.due("item of kind " + kind, x.get(0, 0, kind, 0), 0);
        }
        Check.due("latitude", x.get(0, 0, Flights.FIXES, 1), 0);
        Check.due("mark", x.get(0, 0, Flights.MARKS, 0), 1);
    }

    private static void standsAt(long moment, double longitude, double latitude, float pressure) {
        GliderHouse x = new GliderHouse();
        x.trace();
        Check.due("here", x.here(0, moment, Check.bits(longitude), Check.bits(latitude), Check.bits(pressure)), 1);
        Check.due("status()", x.status(), 0);
        // -0 added leaves any number as it is
        x.fly(0, 1, 0, Check.bits(-0.0), Check.bits(-0.0), Check.bits(-0f));
        Check.due("moment", x.get(0, 0, Flights.MOMENTS, 0), moment);
        Check.due("longitude", x.get(0, 0, Flights.FIXES, 0), Check.bits(longitude));
        Check.due("latitude", x.get(0, 0, Flights.FIXES, 1), Check.bits(latitude));
        Check.due("pressure", x.get(0, 0, Flights.PRESSURES, 0), Check.bits(pressure));
    }

    private static void hereAtItsEnds() {
        Check.about("Promise 13", "a moment 0 .. 1000000000, a fix (bits of doubles from -180 to 180, -90 to 90), a pressure (of a float, 0 to 2000): 1");
        standsAt(0, -180, -90, 0f);
        standsAt(1000000000, 180, 90, 2000f);
        standsAt(1, Math.nextDown(180.0), Math.nextDown(90.0), Math.nextDown(2000f));
        standsAt(999999999, Math.nextUp(-180.0), Math.nextUp(-90.0), Float.MIN_VALUE);
        standsAt(0, -0.0, -0.0, -0f);
        standsAt(0, Double.MIN_VALUE, -Double.MIN_VALUE, Float.MIN_NORMAL);
    }

    private static void hereOutside() {
        Check.about("Promise 13", "UNKNOWN; OUTSIDE");
        GliderHouse x = new GliderHouse();
        x.trace();
        long[] moments = {-1, 1000000001L, Long.MIN_VALUE, Long.MAX_VALUE, 1L << 32};
        for (long moment : moments) {
            Check.refused(x, "moment " + moment, x.here(0, moment, 0, 0, 0), GliderHouse.OUTSIDE);
        }
        double[] wrong = {Double.NaN, Double.POSITIVE_INFINITY, Double.NEGATIVE_INFINITY, Math.nextUp(180.0), Math.nextDown(-180.0)};
        for (double w : wrong) {
            Check.refused(x, "longitude " + w, x.here(0, 0, Check.bits(w), 0, 0), GliderHouse.OUTSIDE);
            Check.refused(x, "latitude " + w, x.here(0, 0, 0, Check.bits(w), 0), GliderHouse.OUTSIDE);
        }
        Check.refused(x, "longitude -1 by bits", x.here(0, 0, -1, 0, 0), GliderHouse.OUTSIDE);
        Check.refused(x, "latitude just above", x.here(0, 0, 0, Check.bits(Math.nextUp(90.0)), 0), GliderHouse.OUTSIDE);
        Check.refused(x, "latitude just below", x.here(0, 0, 0, Check.bits(Math.nextDown(-90.0)), 0), GliderHouse.OUTSIDE);
        int[] pressures = {Check.bits(-Float.MIN_VALUE), Check.bits(Math.nextUp(2000f)), 0x7FC00000, 0x7F800001, 0x7F800000, 0xFF800000, -1};
        for (int p : pressures) {
            Check.refused(x, "pressure " + p, x.here(0, 0, 0, 0, p), GliderHouse.OUTSIDE);
        }
    }

    private static void hereUnknown() {
        Check.about("Promise 13", "UNKNOWN; OUTSIDE");
        GliderHouse x = new GliderHouse();
        x.trace();
        int[] none = {1, -1, 6, Integer.MAX_VALUE};
        for (int trace : none) {
            Check.refused(x, "here", x.here(trace, 0, 0, 0, 0), GliderHouse.UNKNOWN);
            Check.refused(x, "here, UNKNOWN ahead of OUTSIDE", x.here(trace, -1, -1, -1, -1), GliderHouse.UNKNOWN);
        }
    }

    private static void refusedHereStays() {
        Check.about("Terms answers", "These change nothing but STATUS");
        GliderHouse x = new GliderHouse();
        x.trace();
        x.here(0, 7, Check.bits(8.0), Check.bits(9.0), Check.bits(10f));
        x.here(0, 70, Check.bits(80.0), Check.bits(85.0), Check.bits(-1f));
        x.here(0, 70, Check.bits(80.0), Check.bits(95.0), Check.bits(1f));
        x.fly(0, 1, 0, 0, 0, 0);
        Check.due("moment", x.get(0, 0, Flights.MOMENTS, 0), 7);
        Check.due("longitude", x.get(0, 0, Flights.FIXES, 0), Check.bits(8.0));
        Check.due("latitude", x.get(0, 0, Flights.FIXES, 1), Check.bits(9.0));
        Check.due("pressure", x.get(0, 0, Flights.PRESSURES, 0), Check.bits(10f));
    }

    private static void flyAtItsEnds() {
        Check.about("Promise 14", "A BLOCK more of n READINGS (1 .. 24)");
        GliderHouse x = new GliderHouse();
        x.trace();
        Check.due("1, all least", x.fly(0, 1, 0, Check.bits(-10.0), Check.bits(-10.0), Check.bits(-100f)), 0);
        Check.due("status()", x.status(), 0);
        Check.due("24, all most", x.fly(0, 24, 1000000, Check.bits(10.0), Check.bits(10.0), Check.bits(100f)), 1);
        int[] sizes = {24, 48, 24, 24, 24};
        for (int kind = 0; kind < 5; kind++) {
            Check.due("size of 24", x.size(0, 1, kind), sizes[kind]);
            Check.due("size of 1", x.size(0, 0, kind), sizes[kind] / 24);
        }
        Check.due("its first moment", x.get(0, 1, Flights.MOMENTS, 0), 1000000);
        Check.due("its last moment", x.get(0, 1, Flights.MOMENTS, 23), 24000000);
        Check.due("its last longitude", x.get(0, 1, Flights.FIXES, 46), Check.bits(230.0));
        Check.due("its last latitude", x.get(0, 1, Flights.FIXES, 47), Check.bits(230.0));
        Check.due("its last pressure", x.get(0, 1, Flights.PRESSURES, 23), Check.bits(2300f));
        Check.due("its last noise", x.get(0, 1, Flights.NOISES, 23), 0);
        Check.due("its last mark", x.get(0, 1, Flights.MARKS, 23), 1);
    }

    private static void flyOutside() {
        Check.about("Promise 14", "UNKNOWN; OUTSIDE; FULL");
        GliderHouse x = new GliderHouse();
        x.trace();
        int[] counts = {0, -1, 25, Integer.MIN_VALUE, Integer.MAX_VALUE};
        for (int n : counts) {
            Check.refused(x, "n " + n, x.fly(0, n, 1, 0, 0, 0), GliderHouse.OUTSIDE);
        }
        int[] steps = {-1, 1000001, Integer.MIN_VALUE, Integer.MAX_VALUE};
        for (int dt : steps) {
            Check.refused(x, "dt " + dt, x.fly(0, 1, dt, 0, 0, 0), GliderHouse.OUTSIDE);
        }
        double[] wrong = {Double.NaN, Double.POSITIVE_INFINITY, Double.NEGATIVE_INFINITY, Math.nextUp(10.0), Math.nextDown(-10.0)};
        for (double w : wrong) {
            Check.refused(x, "dLongitude " + w, x.fly(0, 1, 1, Check.bits(w), 0, 0), GliderHouse.OUTSIDE);
            Check.refused(x, "dLatitude " + w, x.fly(0, 1, 1, 0, Check.bits(w), 0), GliderHouse.OUTSIDE);
        }
        int[] floats = {Check.bits(Math.nextUp(100f)), Check.bits(Math.nextDown(-100f)), 0x7FC00000, 0xFF800001, 0x7F800000, 0xFF800000};
        for (int p : floats) {
            Check.refused(x, "dPressure " + p, x.fly(0, 1, 1, 0, 0, p), GliderHouse.OUTSIDE);
        }
        Check.due("no BLOCK was laid", x.block(0), 0);
    }

    private static void flyUnknownAndFull() {
        Check.about("Promise 14", "UNKNOWN; OUTSIDE; FULL");
        GliderHouse x = new GliderHouse();
        x.trace();
        Check.refused(x, "TRACE 1", x.fly(1, 1, 1, 0, 0, 0), GliderHouse.UNKNOWN);
        Check.refused(x, "TRACE -1", x.fly(-1, 1, 1, 0, 0, 0), GliderHouse.UNKNOWN);
        Check.refused(x, "UNKNOWN ahead of OUTSIDE", x.fly(1, 0, -1, -1, -1, -1), GliderHouse.UNKNOWN);
        for (int b = 0; b <= 7; b++) {
            Check.due("fly", x.fly(0, 1, 1, 0, 0, 0), b);
        }
        Check.refused(x, "the 9th", x.fly(0, 1, 1, 0, 0, 0), GliderHouse.FULL);
        Check.refused(x, "OUTSIDE ahead of FULL", x.fly(0, 25, 1, 0, 0, 0), GliderHouse.OUTSIDE);
    }

    private static void refusedFlyStays() {
        Check.about("Terms answers", "These change nothing but STATUS");
        GliderHouse x = new GliderHouse();
        x.trace();
        x.fly(0, 3, 10, Check.bits(1.0), 0, 0);
        x.fly(0, 25, 10, Check.bits(1.0), 0, 0);
        x.fly(0, 3, 10, Check.bits(11.0), 0, 0);
        x.fly(0, 1, 1, 0, 0, 0);
        Check.due("HERE went on by what was flown", x.get(0, 1, Flights.MOMENTS, 0), 31);
        Check.due("longitude", x.get(0, 1, Flights.FIXES, 0), Check.bits(3.0));
        for (int b = 2; b <= 7; b++) {
            x.block(0);
        }
        x.fly(0, 3, 10, 0, 0, 0);
        Check.due("status()", x.status(), GliderHouse.FULL);
        Check.due("the last BLOCK stays LOST", x.size(0, 7, 0), GliderHouse.NONE);
    }

    private static void flyGoesBeyond() {
        Check.about("Promise 14", "that is laid");
        GliderHouse x = new GliderHouse();
        x.trace();
        x.here(0, 1000000000, Check.bits(180.0), Check.bits(-90.0), Check.bits(2000f));
        Check.due("fly", x.fly(0, 1, 1, Check.bits(10.0), Check.bits(-10.0), Check.bits(100f)), 0);
        Check.due("a moment above HERE's most", x.get(0, 0, Flights.MOMENTS, 0), 1000000001L);
        Check.due("a longitude of no fix", x.get(0, 0, Flights.FIXES, 0), Check.bits(190.0));
        Check.due("a latitude of no fix", x.get(0, 0, Flights.FIXES, 1), Check.bits(-100.0));
        Check.due("a pressure above the most", x.get(0, 0, Flights.PRESSURES, 0), Check.bits(2100f));
        x.recorder(Flights.PLAIN, 0);
        Check.due("read", x.read(0), 1);
        Flights.found(x, 5, 0, 0);
    }

    private static void holds(GliderHouse x, int... want) {
        Check.due("count(8)", x.count(8), want.length);
        for (int i = 0; i < want.length; i++) {
            Check.due("out(" + i + ")", x.out(i), want[i]);
        }
        Check.due("out(" + want.length + ")", x.out(want.length), GliderHouse.NONE);
    }

    private static void writtenWithoutBlocks() {
        Check.about("Terms 1", "WRITTEN a TRACE is bytes: 70, how many BLOCKS");
        GliderHouse x = new GliderHouse();
        x.trace();
        Check.due("export", x.export(0), 3);
        holds(x, 70, 0, 70);
        Check.due("back()", x.back(), 1);
        Check.refused(x, "it has no BLOCK", x.size(1, 0, 0), GliderHouse.UNKNOWN);
    }

    private static void writtenLostAndEmpty() {
        Check.about("Terms 1", "for each its five ROWS: 255, if it is LOST, else how many items");
        GliderHouse x = new GliderHouse();
        x.trace();
        x.block(0);
        Check.due("all LOST", x.export(0), 8);
        holds(x, 70, 1, 255, 255, 255, 255, 255, 70 ^ 1 ^ 255);
        for (int kind = 0; kind < 5; kind++) {
            x.row(0, 0, kind, 0);
        }
        Check.due("all of 0 items", x.export(0), 8);
        holds(x, 70, 1, 0, 0, 0, 0, 0, 71);
        Check.due("back()", x.back(), 1);
        for (int kind = 0; kind < 5; kind++) {
            Check.due("a ROW of 0 items is not LOST", x.size(1, 0, kind), 0);
        }
    }

    private static void writtenEightBlocks() {
        Check.about("Terms 1", "in the end the SUM, all bytes ahead xored");
        GliderHouse x = new GliderHouse();
        x.trace();
        for (int b = 0; b < 8; b++) {
            x.block(0);
        }
        Check.due("export", x.export(0), 43);
        Check.due("how many BLOCKS", x.out(1), 8);
        Check.due("the SUM", x.out(42), 70 ^ 8);
        x.row(0, 7, Flights.MARKS, 1);
        x.set(0, 7, Flights.MARKS, 0, -1);
        Check.due("export", x.export(0), 44);
        Check.due("how many items", x.out(41), 1);
        Check.due("the last item", x.out(42), 255);
        Check.due("the SUM", x.out(43), 70 ^ 8 ^ 255 ^ 1 ^ 255);
        Check.due("back()", x.back(), 1);
        Check.due("the last item", x.get(1, 7, Flights.MARKS, 0), -1);
    }

    private static void writtenLongest() {
        Check.about("Promise 15", "A TRACE is WRITTEN to the OUT: how many bytes");
        GliderHouse x = Flights.still(192, 1);
        Check.due("8 BLOCKS of 24", x.export(0), 2 + 8 * (5 + 24 * 33) + 1);
        Check.due("a full ROW", x.out(2), 24);
        Check.due("a full ROW of FIXES", x.out(2 + 1 + 24 * 8), 48);
        Check.due("the last byte is there", x.out(6378) >= 0 ? 1 : 0, 1);
        Check.due("none is behind it", x.out(6379), GliderHouse.NONE);
        Check.due("back()", x.back(), 1);
        Check.due("the last mark", x.get(1, 7, Flights.MARKS, 23), 1);
        Check.due("the last moment", x.get(1, 7, Flights.MOMENTS, 23), 192);
        Check.due("DIGEST", x.digest(1), x.digest(0));
        x.trace();
        Check.due("a shorter one behind it", x.export(2), 3);
        holds(x, 70, 0, 70);
    }

    private static void writtenHighestFirst() {
        Check.about("Terms 1", "the highest byte first (8, 8, 4, 4, 1 bytes)");
        GliderHouse x = new GliderHouse();
        x.trace();
        x.block(0);
        for (int kind = 0; kind < 5; kind++) {
            x.row(0, 0, kind, 1);
            x.set(0, 0, kind, 0, kind >= Flights.PRESSURES ? 0x81020384L : 0x8102030405060784L);
        }
        x.export(0);
        int[] want = {70, 1, 1, 0x81, 2, 3, 4, 5, 6, 7, 0x84, 1, 0x81, 2, 3, 4, 5, 6, 7, 0x84, 1, 0x81, 2, 3, 0x84, 1, 0x81, 2, 3, 0x84, 1, 0x84, 0};
        for (int i = 0; i < want.length - 1; i++) {
            want[want.length - 1] ^= want[i];
        }
        holds(x, want);
    }

    private static void exportUnknown() {
        Check.about("Promise 15", "how many bytes. UNKNOWN");
        GliderHouse x = new GliderHouse();
        Check.refused(x, "export(0)", x.export(0), GliderHouse.UNKNOWN);
        x.trace();
        x.export(0);
        int[] none = {1, -1, 6, Integer.MIN_VALUE};
        for (int trace : none) {
            Check.refused(x, "export(" + trace + ")", x.export(trace), GliderHouse.UNKNOWN);
        }
        holds(x, 70, 0, 70);
    }

    private static void outAtItsEnds() {
        Check.about("Promise 16", "Byte i of the OUT (0 .. 255); NONE");
        GliderHouse x = new GliderHouse();
        Check.due("of nothing", x.out(0), GliderHouse.NONE);
        x.trace();
        x.block(0);
        x.export(0);
        Check.due("out(0)", x.out(0), 70);
        Check.due("out(2), no byte with sign", x.out(2), 255);
        Check.due("out(7)", x.out(7), 70 ^ 1 ^ 255);
        int[] none = {-1, 8, 6378, 6379, Integer.MIN_VALUE, Integer.MAX_VALUE};
        for (int i : none) {
            Check.due("out(" + i + ")", x.out(i), GliderHouse.NONE);
        }
    }

    private static void alterAtItsEnds() {
        Check.about("Promise 17", "Byte i of the OUT is xored with a mask (0 .. 255): what it is then. UNKNOWN; OUTSIDE");
        GliderHouse x = new GliderHouse();
        Check.refused(x, "of nothing", x.alter(0, 0), GliderHouse.UNKNOWN);
        x.trace();
        x.export(0);
        Check.due("mask 0", x.alter(0, 0), 70);
        Check.due("status()", x.status(), 0);
        Check.due("mask 255", x.alter(2, 255), 70 ^ 255);
        Check.due("once more", x.alter(2, 255), 70);
        Check.due("to 255", x.alter(2, 70 ^ 255), 255);
        int[] none = {-1, 3, Integer.MIN_VALUE, Integer.MAX_VALUE};
        for (int i : none) {
            Check.refused(x, "alter(" + i + ", 1)", x.alter(i, 1), GliderHouse.UNKNOWN);
            Check.refused(x, "UNKNOWN ahead of OUTSIDE", x.alter(i, 256), GliderHouse.UNKNOWN);
        }
        int[] masks = {-1, 256, Integer.MIN_VALUE, Integer.MAX_VALUE};
        for (int mask : masks) {
            Check.refused(x, "mask " + mask, x.alter(0, mask), GliderHouse.OUTSIDE);
        }
        holds(x, 70, 0, 255);
        x.cut(2);
        Check.refused(x, "a byte that went", x.alter(2, 1), GliderHouse.UNKNOWN);
    }

    private static void cutAtItsEnds() {
        Check.about("Promise 18", "The first n bytes of the OUT stay: how many went");
        GliderHouse x = new GliderHouse();
        Check.due("of nothing", x.cut(0), 0);
        Check.due("status()", x.status(), 0);
        x.trace();
        x.export(0);
        Check.due("all stay", x.cut(3), 0);
        holds(x, 70, 0, 70);
        Check.due("two stay", x.cut(2), 1);
        holds(x, 70, 0);
        Check.due("none stays", x.cut(0), 2);
        holds(x);
        Check.due("none again", x.cut(0), 0);
        Check.due("export anew", x.export(0), 3);
        holds(x, 70, 0, 70);
    }

    private static void cutOutside() {
        Check.about("Promise 18", "how many went. OUTSIDE");
        GliderHouse x = new GliderHouse();
        Check.refused(x, "more than nothing", x.cut(1), GliderHouse.OUTSIDE);
        x.trace();
        x.export(0);
        int[] wrong = {-1, 4, Integer.MIN_VALUE, Integer.MAX_VALUE};
        for (int n : wrong) {
            Check.refused(x, "cut(" + n + ")", x.cut(n), GliderHouse.OUTSIDE);
        }
        holds(x, 70, 0, 70);
        x.cut(2);
        Check.refused(x, "what went does not come again", x.cut(3), GliderHouse.OUTSIDE);
    }

    private static void backFull() {
        Check.about("Promise 19", "the number of a new one (HERE as at first). FULL");
        GliderHouse x = new GliderHouse();
        for (int i = 0; i < 6; i++) {
            x.trace();
        }
        Check.refused(x, "FULL ahead of a place", x.back(), GliderHouse.FULL);
        x.export(0);
        Check.refused(x, "FULL", x.back(), GliderHouse.FULL);
        Check.due("count(0)", x.count(0), 6);
    }

    /** back() tells a place; that is no refusal, and there is no new TRACE. */
    private static void failsAt(GliderHouse x, int place) {
        int traces = x.count(0);
        int bytes = x.count(8);
        x.lack(-1);
        Check.due("back()", x.back(), -100 - place);
        Check.due("status() behind a place", x.status(), 0);
        Check.due("count(0)", x.count(0), traces);
        Check.due("the OUT stays", x.count(8), bytes);
    }

    private static void backOfNothing() {
        Check.about("Promise 19", "it ends (at its length)");
        failsAt(new GliderHouse(), 0);
        GliderHouse x = new GliderHouse();
        x.trace();
        x.export(0);
        x.cut(2);
        failsAt(x, 2);
        x.cut(1);
        failsAt(x, 1);
        x.cut(0);
        failsAt(x, 0);
    }

    private static void backFirstByte() {
        Check.about("Promise 19", "-100 less the place of the first byte that can not stand there: 70");
        int[] masks = {1, 128, 255, 70};
        for (int mask : masks) {
            GliderHouse x = new GliderHouse();
            x.trace();
            x.export(0);
            x.alter(0, mask);
            x.alter(2, mask);
            failsAt(x, 0);
            x.cut(1);
            failsAt(x, 0);
        }
    }

    private static void backBlocks() {
        Check.about("Promise 19", "above 8");
        GliderHouse x = new GliderHouse();
        x.trace();
        for (int b = 0; b < 8; b++) {
            x.block(0);
        }
        x.export(0);
        Check.due("8 BLOCKS", x.back(), 1);
        x.alter(1, 8 ^ 9);
        failsAt(x, 1);
        x.alter(1, 9 ^ 255);
        failsAt(x, 1);
        x.cut(2);
        failsAt(x, 1);
        x.alter(1, 255 ^ 8);
        failsAt(x, 2);
    }

    private static void backRows() {
        Check.about("Promise 19", "a ROW's above 24 (48), but 255");
        for (int kind = 0; kind < 5; kind++) {
            GliderHouse x = new GliderHouse();
            x.trace();
            x.block(0);
            x.row(0, 0, kind, Flights.MOST[kind]);
            int last = x.export(0) - 1;
            Check.due("as many as may be", x.back(), 1);
            Check.due("size", x.size(1, 0, kind), Flights.MOST[kind]);
            int place = 2 + kind;
            int now = Flights.MOST[kind];
            int[] wrong = {now + 1, 49, 254};
            for (int n : wrong) {
                x.alter(place, now ^ n);
                now = n;
                failsAt(x, place);
            }
            x.alter(place, now ^ 255);
            // LOST: its items' bytes, all 0, are the next ROWS' sizes and, behind the last ROW, the SUM
            int left = 4 - kind;
            int sum = 70 ^ 1 ^ (kind % 2 == 0 ? 0 : 255) ^ 255;
            Check.yes("the SUM is not 0", sum != 0);
            failsAt(x, place + 1 + left);
            Check.yes("behind it there are bytes", place + 1 + left < last);
        }
    }

    private static void backEnds() {
        Check.about("Promise 19", "it ends (at its length)");
        GliderHouse x = new GliderHouse();
        x.trace();
        x.block(0);
        for (int kind = 0; kind < 5; kind++) {
            x.row(0, 0, kind, 1);
        }
        int length = x.export(0);
        Check.due("export", length, 2 + 5 + 8 + 8 + 4 + 4 + 1 + 1);
        for (int n = length - 1; n >= 0; n--) {
            x.cut(n);
            failsAt(x, n);
        }
    }

    private static void backEndsAheadOfASumOfZero() {
        Check.about("Promise 19", "it ends (at its length)");
        GliderHouse x = new GliderHouse();
        x.trace();
        x.block(0);
        x.row(0, 0, Flights.MARKS, 1);
        x.set(0, 0, Flights.MARKS, 0, 70);
        Check.due("export", x.export(0), 9);
        Check.due("the SUM", x.out(8), 0);
        Check.due("with it", x.back(), 1);
        x.cut(8);
        failsAt(x, 8);
    }

    private static void backSum() {
        Check.about("Promise 19", "the SUM");
        int[] masks = {1, 128, 255};
        for (int mask : masks) {
            GliderHouse x = Flights.still(1, 1);
            int last = x.export(0) - 1;
            x.alter(last, mask);
            failsAt(x, last);
            x.alter(last, mask);
            x.alter(5, mask);
            failsAt(x, last);
            x.alter(last, mask);
            Check.due("both altered alike", x.back(), 1);
            Check.due("what was altered", x.get(1, 0, Flights.MOMENTS, 0), 1 ^ ((long) mask << 40));
        }
    }

    private static void backByteBehind() {
        Check.about("Promise 19", "a byte behind it");
        GliderHouse x = new GliderHouse();
        x.trace();
        x.block(0);
        x.export(0);
        // 70, 0 BLOCKS, the SUM 70, and five bytes behind it
        x.alter(1, 1);
        x.alter(2, 255 ^ 70);
        failsAt(x, 3);
        x.cut(4);
        failsAt(x, 3);
        x.cut(3);
        Check.due("none behind it", x.back(), 1);
    }

    private static void backFirstOfSeveral() {
        Check.about("Promise 19", "-100 less the place of the first byte that can not stand there");
        GliderHouse x = Flights.still(2, 1);
        int last = x.export(0) - 1;
        x.alter(last, 1);
        failsAt(x, last);
        // NOISES at 2 + 17 + 33 + 9, PRESSURES at 2 + 17 + 33
        x.alter(61, 2 ^ 25);
        failsAt(x, 61);
        x.alter(52, 2 ^ 99);
        failsAt(x, 52);
        x.alter(1, 1 ^ 9);
        failsAt(x, 1);
        x.alter(0, 1);
        failsAt(x, 0);
    }

    private static void backHere() {
        Check.about("Promise 19", "the number of a new one (HERE as at first)");
        GliderHouse x = new GliderHouse();
        x.trace();
        x.here(0, 9, Check.bits(9.0), Check.bits(9.0), Check.bits(9f));
        x.export(0);
        Check.due("back()", x.back(), 1);
        x.fly(1, 1, 0, 0, 0, 0);
        for (int kind = 0; kind < 4; kind++) {
            Check.due("item of kind " + kind, x.get(1, 0, kind, 0), 0);
        }
        x.fly(0, 1, 0, 0, 0, 0);
        Check.due("the other one's stays", x.get(0, 0, 0, 0), 9);
    }

    private static long digestOf(int... bytes) {
        long h = START;
        for (int b : bytes) {
            h = (h ^ b) * FACTOR;
        }
        return h;
    }

    private static void digests() {
        Check.about("Promise 20", "DIGEST of a TRACE. 0: UNKNOWN");
        GliderHouse x = new GliderHouse();
        int[] none = {0, -1, 6, Integer.MAX_VALUE};
        for (int trace : none) {
            Check.refusedAs(x, "digest(" + trace + ")", x.digest(trace), 0, GliderHouse.UNKNOWN);
        }
        x.trace();
        Check.due("no BLOCKS", x.digest(0), digestOf(70, 0, 70));
        Check.due("status()", x.status(), 0);
        x.block(0);
        Check.due("LOST ROWS, bytes 0 .. 255", x.digest(0), digestOf(70, 1, 255, 255, 255, 255, 255, 184));
        x.row(0, 0, Flights.MARKS, 2);
        x.set(0, 0, Flights.MARKS, 0, -128);
        x.set(0, 0, Flights.MARKS, 1, -1);
        Check.due("items, bytes 0 .. 255", x.digest(0), digestOf(70, 1, 255, 255, 255, 255, 2, 128, 255, 70 ^ 1 ^ 2 ^ 128 ^ 255));
        Check.due("the OUT is not written", x.count(8), 0);
        GliderHouse y = new GliderHouse();
        y.trace();
        y.here(0, 5, 0, 0, 0);
        Check.due("HERE is not in it", y.digest(0), digestOf(70, 0, 70));
    }
}
