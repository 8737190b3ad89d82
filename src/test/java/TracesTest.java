import java.io.ByteArrayOutputStream;

/** Promises 7 to 20: TRACES, BLOCKS, ROWS, HERE, and what is WRITTEN. */
public final class TracesTest {
    private static final int[] MOST = {24, 48, 24, 24, 24};

    public static void main(String[] args) {
        traces();
        blocks();
        rows();
        items();
        fullRows();
        itemTroubles();
        here();
        fly();
        flyEdges();
        written();
        outAlterCut();
        back();
        backFaults();
        digest();
        Check.end("TracesTest");
    }

    private static void traces() {
        GliderHouse x = new GliderHouse();
        for (int i = 0; i < 6; i++) {
            Check.due("trace()", x.trace(), i);
            Check.due("count(0)", x.count(0), i + 1);
        }
        Check.refused(x, "trace()", x.trace(), GliderHouse.FULL);
        Check.due("count(0)", x.count(0), 6);
    }

    private static void blocks() {
        GliderHouse x = new GliderHouse();
        Check.refused(x, "block(0)", x.block(0), GliderHouse.UNKNOWN);
        x.trace();
        x.trace();
        for (int i = 0; i < 8; i++) {
            Check.due("block(1)", x.block(1), i);
            for (int kind = 0; kind < 5; kind++) {
                Check.due("size", x.size(1, i, kind), GliderHouse.NONE);
                Check.due("status", x.status(), 0);
            }
        }
        Check.refused(x, "block(1)", x.block(1), GliderHouse.FULL);
        Check.due("block(0)", x.block(0), 0);
        Check.refused(x, "block(-1)", x.block(-1), GliderHouse.UNKNOWN);
        Check.refused(x, "block(2)", x.block(2), GliderHouse.UNKNOWN);
    }

    private static GliderHouse oneBlock() {
        GliderHouse x = new GliderHouse();
        x.trace();
        x.block(0);
        return x;
    }

    private static void rows() {
        GliderHouse x = oneBlock();
        for (int kind = 0; kind < 5; kind++) {
            Check.due("row 0", x.row(0, 0, kind, 0), 1);
            Check.due("size", x.size(0, 0, kind), 0);
            Check.due("row most", x.row(0, 0, kind, MOST[kind]), 1);
            Check.due("size", x.size(0, 0, kind), MOST[kind]);
            Check.refused(x, "row above", x.row(0, 0, kind, MOST[kind] + 1), GliderHouse.OUTSIDE);
            Check.refused(x, "row far above", x.row(0, 0, kind, Integer.MAX_VALUE), GliderHouse.OUTSIDE);
            Check.refused(x, "row -2", x.row(0, 0, kind, -2), GliderHouse.SIZE);
            Check.refused(x, "row least", x.row(0, 0, kind, Integer.MIN_VALUE), GliderHouse.SIZE);
            Check.due("size", x.size(0, 0, kind), MOST[kind]);
            x.set(0, 0, kind, 1, 77);
            x.set(0, 0, kind, MOST[kind] - 1, 78);
            Check.due("row again", x.row(0, 0, kind, MOST[kind]), 1);
            for (int i = 0; i < MOST[kind]; i++) {
                Check.due("items are 0", x.get(0, 0, kind, i), 0);
            }
            Check.due("row -1", x.row(0, 0, kind, -1), 1);
            Check.due("size", x.size(0, 0, kind), GliderHouse.NONE);
        }
        int[][] unknown = {{-1, 0, 0}, {1, 0, 0}, {0, -1, 0}, {0, 1, 0}, {0, 0, -1}, {0, 0, 5}};
        for (int[] u : unknown) {
            Check.refused(x, "row UNKNOWN", x.row(u[0], u[1], u[2], -7), GliderHouse.UNKNOWN);
            Check.refused(x, "set UNKNOWN", x.set(u[0], u[1], u[2], 0, 0), GliderHouse.UNKNOWN);
            Check.refusedAs(x, "get UNKNOWN", x.get(u[0], u[1], u[2], 0), 0, GliderHouse.UNKNOWN);
            Check.refused(x, "size UNKNOWN", x.size(u[0], u[1], u[2]), GliderHouse.UNKNOWN);
        }
    }

    private static void keeps(int kind, long bits, long want) {
        GliderHouse x = oneBlock();
        x.row(0, 0, kind, 3);
        Check.due("set", x.set(0, 0, kind, 2, bits), 1);
        Check.due("get of kind " + kind + ", " + bits, x.get(0, 0, kind, 2), want);
        Check.due("its neighbour", x.get(0, 0, kind, 1), 0);
        Check.due("status", x.status(), 0);
    }

    private static void items() {
        long[] some = {0, 1, -1, 255, 256, 127, 128, -128, -129, 0x7FFFFFFFL, 0x80000000L, 0xFFFFFFFFL, 0x123456789ABCDEFL, Long.MIN_VALUE, Long.MAX_VALUE};
        for (long bits : some) {
            keeps(0, bits, bits);
            keeps(3, bits, (int) bits);
            keeps(4, bits, (byte) bits);
        }
        double[] doubles = {0.0, -0.0, 1.5, -180, Double.MIN_VALUE, -Double.MAX_VALUE, Double.POSITIVE_INFINITY, Double.NEGATIVE_INFINITY};
        for (double d : doubles) {
            keeps(1, Double.doubleToRawLongBits(d), Double.doubleToRawLongBits(d));
        }
        long[] noNumbers = {0x7FF0000000000001L, 0x7FF8000000000000L, 0x7FFFFFFFFFFFFFFFL, 0xFFF0000000000001L, 0xFFF8000000000000L, -1L};
        for (long bits : noNumbers) {
            keeps(1, bits, 0x7FF8000000000000L);
        }
        float[] floats = {0f, -0f, 1013.25f, -5f, Float.MIN_VALUE, Float.MAX_VALUE, Float.POSITIVE_INFINITY, Float.NEGATIVE_INFINITY};
        for (float f : floats) {
            keeps(2, Float.floatToRawIntBits(f), Float.floatToRawIntBits(f));
            keeps(2, 0x5A00000000L | (Float.floatToRawIntBits(f) & 0xFFFFFFFFL), Float.floatToRawIntBits(f));
        }
        int[] noFloats = {0x7F800001, 0x7FC00000, 0x7FFFFFFF, 0xFF800001, 0xFFC00000, -1};
        for (int bits : noFloats) {
            keeps(2, bits, 0x7FC00000);
        }
    }

    /** Every item of a full TRACE is its own. */
    private static void fullRows() {
        for (int kind = 0; kind < 5; kind++) {
            // one house for each kind that is laid last, as no object is used for more than 512 calls
            GliderHouse x = new GliderHouse();
            x.trace();
            x.block(0);
            x.block(0);
            for (int k = 0; k < 10; k++) {
                int row = (kind + k) % 5;
                x.row(0, k / 5, row, MOST[row]);
                for (int i = 0; i < MOST[row]; i += i == 0 ? MOST[row] / 2 : i == MOST[row] / 2 ? MOST[row] - 1 - i : 2) {
                    x.set(0, k / 5, row, i, 1 + k / 5 * 50 + row * 10 + i % 7);
                }
            }
            for (int k = 0; k < 10; k++) {
                int row = k % 5;
                for (int i : new int[] {0, MOST[row] / 2, MOST[row] - 1}) {
                    Check.due("item of a full ROW", x.get(0, k / 5, row, i), 1 + k / 5 * 50 + row * 10 + i % 7);
                }
                Check.due("item 1", x.get(0, k / 5, row, 1), 0);
            }
        }
    }

    private static void itemTroubles() {
        for (int kind = 0; kind < 5; kind++) {
            GliderHouse x = oneBlock();
            Check.refused(x, "set LOST", x.set(0, 0, kind, 0, 1), GliderHouse.LOST);
            Check.refusedAs(x, "get LOST", x.get(0, 0, kind, -9), 0, GliderHouse.LOST);
            x.row(0, 0, kind, 2);
            int[] beyond = {-1, 2, Integer.MAX_VALUE, Integer.MIN_VALUE};
            for (int i : beyond) {
                Check.refused(x, "set BEYOND", x.set(0, 0, kind, i, 1), GliderHouse.BEYOND);
                Check.refusedAs(x, "get BEYOND", x.get(0, 0, kind, i), 0, GliderHouse.BEYOND);
            }
            Check.due("set", x.set(0, 0, kind, 1, 1), 1);
            Check.due("get", x.get(0, 0, kind, 1), 1);
            x.row(0, 0, kind, 0);
            Check.refused(x, "set of none", x.set(0, 0, kind, 0, 1), GliderHouse.BEYOND);
        }
    }

    private static void here() {
        GliderHouse x = new GliderHouse();
        long zero = Check.bits(0.0);
        Check.refused(x, "here UNKNOWN", x.here(0, -1, 0, 0, 0), GliderHouse.UNKNOWN);
        x.trace();
        Check.due("here", x.here(0, 1000000000L, Check.bits(180.0), Check.bits(90.0), Check.bits(2000f)), 1);
        Check.due("here", x.here(0, 0, Check.bits(-180.0), Check.bits(-90.0), Check.bits(-0f)), 1);
        Check.refused(x, "moment", x.here(0, -1, zero, zero, 0), GliderHouse.OUTSIDE);
        Check.refused(x, "moment", x.here(0, 1000000001L, zero, zero, 0), GliderHouse.OUTSIDE);
        double[] wrong = {Math.nextUp(180.0), -Math.nextUp(180.0), Double.NaN, Double.POSITIVE_INFINITY, Double.NEGATIVE_INFINITY};
        for (double w : wrong) {
            Check.refused(x, "longitude", x.here(0, 0, Check.bits(w), zero, 0), GliderHouse.OUTSIDE);
            Check.refused(x, "latitude", x.here(0, 0, zero, Check.bits(w), 0), GliderHouse.OUTSIDE);
        }
        Check.refused(x, "latitude", x.here(0, 0, zero, Check.bits(Math.nextUp(90.0)), 0), GliderHouse.OUTSIDE);
        Check.refused(x, "latitude", x.here(0, 0, zero, Check.bits(-Math.nextUp(90.0)), 0), GliderHouse.OUTSIDE);
        float[] wrongFloats = {-Float.MIN_VALUE, Math.nextUp(2000f), Float.NaN, Float.POSITIVE_INFINITY, Float.NEGATIVE_INFINITY};
        for (float w : wrongFloats) {
            Check.refused(x, "pressure", x.here(0, 0, zero, zero, Check.bits(w)), GliderHouse.OUTSIDE);
        }
        x.fly(0, 1, 0, 0, 0, 0);
        Check.due("HERE stays", x.get(0, 0, 1, 0), Check.bits(-180.0));
    }

    private static void fly() {
        GliderHouse x = new GliderHouse();
        x.trace();
        x.here(0, 5, Check.bits(9.9), Check.bits(-47.3), Check.bits(1013.25f));
        double lon = 9.9;
        double lat = -47.3;
        float pressure = 1013.25f;
        long moment = 5;
        for (int b = 0; b < 2; b++) {
            Check.due("fly", x.fly(0, 3, 7, Check.bits(0.1), Check.bits(-1e-7), Check.bits(-0.3f)), b);
            for (int i = 0; i < 3; i++) {
                moment += 7;
                lon += 0.1;
                lat += -1e-7;
                pressure += -0.3f;
                Check.due("moment", x.get(0, b, 0, i), moment);
                Check.due("longitude", x.get(0, b, 1, 2 * i), Check.bits(lon));
                Check.due("latitude", x.get(0, b, 1, 2 * i + 1), Check.bits(lat));
                Check.due("pressure", x.get(0, b, 2, i), Check.bits(pressure));
                Check.due("noise", x.get(0, b, 3, i), 0);
                Check.due("mark", x.get(0, b, 4, i), 1);
            }
            int[] sizes = {3, 6, 3, 3, 3};
            for (int kind = 0; kind < 5; kind++) {
                Check.due("size", x.size(0, b, kind), sizes[kind]);
            }
        }
    }

    private static void flyEdges() {
        GliderHouse x = new GliderHouse();
        long ten = Check.bits(10.0);
        int hundred = Check.bits(100f);
        Check.refused(x, "fly UNKNOWN", x.fly(0, 0, 0, 0, 0, 0), GliderHouse.UNKNOWN);
        x.trace();
        Check.due("fly most", x.fly(0, 24, 1000000, ten, ten, hundred), 0);
        Check.due("fly least", x.fly(0, 1, 0, Check.bits(-10.0), Check.bits(-10.0), Check.bits(-100f)), 1);
        Check.due("moment", x.get(0, 1, 0, 0), 24000000);
        Check.due("beyond any fix", x.get(0, 1, 1, 0), Check.bits(230.0));
        Check.refused(x, "n 0", x.fly(0, 0, 1, 0, 0, 0), GliderHouse.OUTSIDE);
        Check.refused(x, "n 25", x.fly(0, 25, 1, 0, 0, 0), GliderHouse.OUTSIDE);
        Check.refused(x, "dt -1", x.fly(0, 1, -1, 0, 0, 0), GliderHouse.OUTSIDE);
        Check.refused(x, "dt above", x.fly(0, 1, 1000001, 0, 0, 0), GliderHouse.OUTSIDE);
        double[] wrong = {Math.nextUp(10.0), -Math.nextUp(10.0), Double.NaN, Double.NEGATIVE_INFINITY};
        for (double w : wrong) {
            Check.refused(x, "dLongitude", x.fly(0, 1, 1, Check.bits(w), 0, 0), GliderHouse.OUTSIDE);
            Check.refused(x, "dLatitude", x.fly(0, 1, 1, 0, Check.bits(w), 0), GliderHouse.OUTSIDE);
        }
        float[] wrongFloats = {Math.nextUp(100f), -Math.nextUp(100f), Float.NaN, Float.POSITIVE_INFINITY};
        for (float w : wrongFloats) {
            Check.refused(x, "dPressure", x.fly(0, 1, 1, 0, 0, Check.bits(w)), GliderHouse.OUTSIDE);
        }
        for (int b = 2; b < 8; b++) {
            Check.due("fly", x.fly(0, 1, 0, 0, 0, 0), b);
        }
        Check.due("HERE went on by no refused one", x.get(0, 7, 0, 0), 24000000);
        Check.refused(x, "fly FULL", x.fly(0, 1, 5, 0, 0, 0), GliderHouse.FULL);
        Check.refused(x, "OUTSIDE ahead of FULL", x.fly(0, 25, 5, 0, 0, 0), GliderHouse.OUTSIDE);
        GliderHouse y = new GliderHouse();
        y.trace();
        y.here(0, 0, Check.bits(-0.0), Check.bits(0.0), Check.bits(-0f));
        y.fly(0, 1, 0, Check.bits(-0.0), Check.bits(-0.0), Check.bits(-0f));
        Check.due("-0 and -0", y.get(0, 0, 1, 0), Check.bits(-0.0));
        Check.due("0 and -0", y.get(0, 0, 1, 1), 0);
        Check.due("-0f and -0f", y.get(0, 0, 2, 0), Check.bits(-0f));
        y.here(0, 0, 0, 0, 0);
        y.fly(0, 1, 0, Check.bits(-0.0), Check.bits(-0.0), Check.bits(-0f));
        Check.due("0f and -0f", y.get(0, 1, 2, 0), 0);
        y.fly(0, 1, 0, Check.bits(Double.MIN_VALUE), Check.bits(-1e-310), Check.bits(-1e-42f));
        Check.due("least number", y.get(0, 2, 1, 0), 1);
        Check.due("small number", y.get(0, 2, 1, 1), Check.bits(-1e-310));
        Check.due("small float", y.get(0, 2, 2, 0), Check.bits(-1e-42f));
    }

    private static byte[] bytesOf(int... values) {
        ByteArrayOutputStream bytes = new ByteArrayOutputStream();
        for (int v : values) {
            bytes.write(v);
        }
        return bytes.toByteArray();
    }

    private static void holds(GliderHouse x, byte[] want) {
        Check.due("count(8)", x.count(8), want.length);
        for (int i = 0; i < want.length; i++) {
            Check.due("out(" + i + ")", x.out(i), want[i] & 255);
        }
        Check.due("out behind", x.out(want.length), GliderHouse.NONE);
    }

    private static void written() {
        GliderHouse x = new GliderHouse();
        Check.refused(x, "export UNKNOWN", x.export(0), GliderHouse.UNKNOWN);
        x.trace();
        Check.due("export of none", x.export(0), 3);
        holds(x, bytesOf(70, 0, 70));
        x.block(0);
        x.row(0, 0, 0, 1);
        x.set(0, 0, 0, 0, 0x0102030405060708L);
        x.row(0, 0, 1, 0);
        x.row(0, 0, 2, 1);
        x.set(0, 0, 2, 0, 0xFFFFFFFF81223344L);
        x.row(0, 0, 4, 2);
        x.set(0, 0, 4, 0, -2);
        x.set(0, 0, 4, 1, 5);
        holds(x, bytesOf(70, 0, 70));
        byte[] want = bytesOf(70, 1, 1, 1, 2, 3, 4, 5, 6, 7, 8, 0, 1, 0x81, 0x22, 0x33, 0x44, 255, 2, 254, 5, 0);
        int sum = 0;
        for (byte b : want) {
            sum ^= b & 255;
        }
        want[want.length - 1] = (byte) sum;
        Check.due("export", x.export(0), want.length);
        holds(x, want);
        GliderHouse y = new GliderHouse();
        y.trace();
        for (int b = 0; b < 8; b++) {
            y.fly(0, 24, 1, 0, 0, 0);
        }
        Check.due("the longest", y.export(0), 6379);
        Check.due("its BLOCKS", y.out(1), 8);
        Check.due("back()", y.back(), 1);
        Check.due("digests", y.digest(1), y.digest(0));
    }

    private static void outAlterCut() {
        GliderHouse x = new GliderHouse();
        Check.refused(x, "alter of nothing", x.alter(0, 0), GliderHouse.UNKNOWN);
        Check.due("cut(0)", x.cut(0), 0);
        Check.refused(x, "cut(1)", x.cut(1), GliderHouse.OUTSIDE);
        x.trace();
        x.export(0);
        Check.due("out(-1)", x.out(-1), GliderHouse.NONE);
        Check.due("alter", x.alter(0, 255), 70 ^ 255);
        Check.due("out", x.out(0), 70 ^ 255);
        Check.due("alter", x.alter(0, 0), 70 ^ 255);
        Check.refused(x, "alter UNKNOWN", x.alter(3, 256), GliderHouse.UNKNOWN);
        Check.refused(x, "alter UNKNOWN", x.alter(-1, 1), GliderHouse.UNKNOWN);
        Check.refused(x, "alter OUTSIDE", x.alter(0, 256), GliderHouse.OUTSIDE);
        Check.refused(x, "alter OUTSIDE", x.alter(0, -1), GliderHouse.OUTSIDE);
        Check.refused(x, "cut(4)", x.cut(4), GliderHouse.OUTSIDE);
        Check.refused(x, "cut(-1)", x.cut(-1), GliderHouse.OUTSIDE);
        x.out(0);
        Check.due("out() leaves STATUS", x.status(), GliderHouse.OUTSIDE);
        Check.due("cut(3)", x.cut(3), 0);
        Check.due("status", x.status(), 0);
        Check.due("cut(1)", x.cut(1), 2);
        Check.due("out(1)", x.out(1), GliderHouse.NONE);
        Check.due("count(8)", x.count(8), 1);
    }

    private static void back() {
        GliderHouse x = new GliderHouse();
        x.trace();
        x.here(0, 100, Check.bits(5.0), Check.bits(6.0), Check.bits(7f));
        x.fly(0, 3, 1, 0, 0, 0);
        x.block(0);
        x.row(0, 1, 1, 2);
        x.row(0, 1, 4, 0);
        x.set(0, 1, 1, 1, 0x7FF0000000000123L);
        int length = x.export(0);
        Check.due("back()", x.back(), 1);
        Check.due("OUT stays", x.count(8), length);
        Check.due("digests", x.digest(1), x.digest(0));
        Check.due("size", x.size(1, 1, 0), GliderHouse.NONE);
        Check.due("size", x.size(1, 1, 4), 0);
        Check.due("no number", x.get(1, 1, 1, 1), 0x7FF8000000000000L);
        x.fly(1, 1, 1, 0, 0, 0);
        Check.due("HERE as at first", x.get(1, 2, 0, 0), 1);
        Check.due("HERE as at first", x.get(1, 2, 1, 0), 0);
        x.set(1, 0, 0, 0, 55);
        Check.due("the other one stays", x.get(0, 0, 0, 0), 101);
        // other bits of what is no number: bytes of item 1 of BLOCK 1's FIXES, with its SUM put right
        int place = 2 + 5 + 3 * 33 + 2 + 8;
        Check.due("highest byte", x.out(place), 0x7F);
        Check.due("lowest byte", x.alter(place + 7, 1), 1);
        x.alter(length - 1, 1);
        Check.due("back()", x.back(), 2);
        Check.due("no number", x.get(2, 1, 1, 1), 0x7FF8000000000000L);
        Check.due("digests", x.digest(2), x.digest(0));
        for (int i = 3; i < 6; i++) {
            Check.due("back()", x.back(), i);
        }
        x.alter(0, 1);
        Check.refused(x, "back() FULL ahead of its bytes", x.back(), GliderHouse.FULL);
    }

    private static void faulty(GliderHouse x, int place) {
        int traces = x.count(0);
        x.lack(-1);
        Check.due("back()", x.back(), -100 - place);
        Check.due("no refusal", x.status(), 0);
        Check.due("count(0)", x.count(0), traces);
    }

    private static GliderHouse exported() {
        GliderHouse x = new GliderHouse();
        x.trace();
        x.fly(0, 2, 1, 0, 0, 0);
        x.export(0);
        return x;
    }

    private static void backFaults() {
        GliderHouse x = new GliderHouse();
        faulty(x, 0);
        x = exported();
        int length = x.count(8);
        // 70, 1; 2 MOMENTS at 2; 4 FIXES at 19; 2 PRESSURES at 52; NOISES at 61; MARKS at 70; SUM at 73
        Check.due("length", length, 74);
        int[] rows = {2, 19, 52, 61, 70};
        int[] counts = {2, 4, 2, 2, 2};
        for (int kind = 0; kind < 5; kind++) {
            int now = counts[kind];
            Check.due("too many", x.alter(rows[kind], now ^ (MOST[kind] + 1)), MOST[kind] + 1);
            faulty(x, rows[kind]);
            x.alter(rows[kind], (MOST[kind] + 1) ^ 254);
            faulty(x, rows[kind]);
            x.alter(rows[kind], 254 ^ now);
        }
        x.alter(1, 1 ^ 9);
        faulty(x, 1);
        x.alter(1, 9 ^ 1);
        x.alter(0, 1);
        faulty(x, 0);
        x.alter(0, 1);
        x.alter(5, 16);
        faulty(x, length - 1);
        x.alter(5, 16);
        // two BLOCKS told: the second one's first ROW is the SUM's byte, then it ends
        x.alter(1, 3);
        int sum = x.out(length - 1);
        faulty(x, sum <= 24 || sum == 255 ? length : length - 1);
        x.alter(1, 3);
        Check.due("whole again", x.back(), 1);
        x.alter(2, 2 ^ 24);
        faulty(x, length);
        x.alter(2, 2 ^ 24);
        x = exported();
        for (int n = length - 1; n >= 0; n--) {
            x.cut(n);
            faulty(x, n);
        }
        x = exported();
        x.alter(1, 1);
        x.alter(2, 2 ^ 70);
        faulty(x, 3);
        x.cut(3);
        Check.due("a TRACE without BLOCKS", x.back(), 1);
        Check.refused(x, "its BLOCK", x.size(1, 0, 0), GliderHouse.UNKNOWN);
        x = exported();
        x.cut(4);
        x.alter(1, 1);
        x.alter(2, 2 ^ 70);
        faulty(x, 3);
        // a row laid by a back() that failed must not be there in the next TRACE
        x = exported();
        x.alter(73, 1);
        faulty(x, 73);
        Check.due("trace()", x.trace(), 1);
        Check.due("block", x.block(1), 0);
        Check.due("size", x.size(1, 0, 0), GliderHouse.NONE);
    }

    private static void digest() {
        GliderHouse x = new GliderHouse();
        Check.refusedAs(x, "digest UNKNOWN", x.digest(0), 0, GliderHouse.UNKNOWN);
        x.trace();
        long h = 1469598103934665603L;
        for (int b : new int[] {70, 0, 70}) {
            h = (h ^ b) * 1099511628211L;
        }
        Check.due("digest", x.digest(0), h);
        Check.due("OUT stays", x.count(8), 0);
        x.block(0);
        h = 1469598103934665603L;
        for (int b : new int[] {70, 1, 255, 255, 255, 255, 255, 70 ^ 1 ^ 255}) {
            h = (h ^ b) * 1099511628211L;
        }
        Check.due("digest", x.digest(0), h);
        Check.due("status", x.status(), 0);
        Check.refusedAs(x, "digest UNKNOWN", x.digest(-1), 0, GliderHouse.UNKNOWN);
    }
}
