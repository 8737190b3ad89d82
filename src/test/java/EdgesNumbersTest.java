/** The edges of NUMBERS: what is no number, zeros of both signs, endless ones, wherever they come in and go out. */
public final class EdgesNumbersTest {
    private static final long[] NO_NUMBERS = {0x7FF8000000000000L, 0x7FF0000000000001L, 0x7FF7FFFFFFFFFFFFL, 0x7FFFFFFFFFFFFFFFL,
        0xFFF0000000000001L, 0xFFF8000000000000L, -1L};
    private static final int[] NO_FLOATS = {0x7FC00000, 0x7F800001, 0x7FBFFFFF, 0x7FFFFFFF, 0xFF800001, 0xFFC00000, -1};
    private static final long ZERO_BELOW = 0x8000000000000000L, ENDLESS = 0x7FF0000000000000L, ENDLESS_BELOW = 0xFFF0000000000000L;

    public static void main(String[] args) {
        noNumbersInRows();
        noFloatsInRows();
        zerosAndEndlessInRows();
        floatBitsAsALong();
        noNumbersWritten();
        noNumbersReadBack();
        noNumberIsNoFix();
        zerosAreFixes();
        endlessIsNoFix();
        pressuresAsRead();
        noNumberHasNoHeight();
        noNumberEntersNoWay();
        zerosGoOn();
        Check.end("EdgesNumbersTest");
    }

    private static GliderHouse rows(int kind, int n) {
        GliderHouse x = new GliderHouse();
        x.trace();
        x.block(0);
        x.row(0, 0, kind, n);
        return x;
    }

    private static void noNumbersInRows() {
        Check.about("Terms NUMBERS", "what is no number by 0x7FF8000000000000 and 0x7FC00000, whatever bits came");
        GliderHouse x = rows(Flights.FIXES, NO_NUMBERS.length);
        for (int i = 0; i < NO_NUMBERS.length; i++) {
            Check.due("set", x.set(0, 0, Flights.FIXES, i, NO_NUMBERS[i]), 1);
            Check.due("get of " + Long.toHexString(NO_NUMBERS[i]), x.get(0, 0, Flights.FIXES, i), 0x7FF8000000000000L);
            Check.due("status()", x.status(), 0);
        }
    }

    private static void noFloatsInRows() {
        Check.about("Terms NUMBERS", "what is no number by 0x7FF8000000000000 and 0x7FC00000, whatever bits came");
        GliderHouse x = rows(Flights.PRESSURES, NO_FLOATS.length);
        for (int i = 0; i < NO_FLOATS.length; i++) {
            x.set(0, 0, Flights.PRESSURES, i, NO_FLOATS[i]);
            Check.due("get of " + Integer.toHexString(NO_FLOATS[i]), x.get(0, 0, Flights.PRESSURES, i), 0x7FC00000L);
            x.set(0, 0, Flights.PRESSURES, i, NO_FLOATS[i] & 0xFFFFFFFFL);
            Check.due("get, without the sign's bits", x.get(0, 0, Flights.PRESSURES, i), 0x7FC00000L);
        }
        x.set(0, 0, Flights.PRESSURES, 0, 0x7FF8000000000000L);
        Check.due("a double's no number has a float's 0 below", x.get(0, 0, Flights.PRESSURES, 0), 0);
    }

    private static void zerosAndEndlessInRows() {
        Check.about("Terms NUMBERS", "NUMBERS are doubles and floats, told by their 64 and 32 bits");
        long[] doubles = {0, ZERO_BELOW, ENDLESS, ENDLESS_BELOW, 1, ZERO_BELOW | 1, ENDLESS - 1, ENDLESS_BELOW - 1};
        GliderHouse x = rows(Flights.FIXES, doubles.length);
        for (int i = 0; i < doubles.length; i++) {
            x.set(0, 0, Flights.FIXES, i, doubles[i]);
            Check.due("get", x.get(0, 0, Flights.FIXES, i), doubles[i]);
        }
        int[] floats = {0, 0x80000000, 0x7F800000, 0xFF800000, 1, 0x80000001, 0x7F7FFFFF, 0xFF7FFFFF};
        GliderHouse y = rows(Flights.PRESSURES, floats.length);
        for (int i = 0; i < floats.length; i++) {
            y.set(0, 0, Flights.PRESSURES, i, floats[i]);
            Check.due("get", y.get(0, 0, Flights.PRESSURES, i), floats[i]);
        }
    }

    private static void floatBitsAsALong() {
        Check.about("Terms NUMBERS", "(of an int as a long)");
        GliderHouse x = rows(Flights.PRESSURES, 2);
        x.set(0, 0, Flights.PRESSURES, 0, 0x80000000L);
        Check.due("-0 by bits of a long without sign", x.get(0, 0, Flights.PRESSURES, 0), -2147483648L);
        x.set(0, 0, Flights.PRESSURES, 1, 0x123456783F800000L);
        Check.due("1 by the lowest 32 bits", x.get(0, 0, Flights.PRESSURES, 1), 0x3F800000L);
    }

    private static void noNumbersWritten() {
        Check.about("Terms NUMBERS", "what is no number by 0x7FF8000000000000 and 0x7FC00000, whatever bits came");
        GliderHouse x = rows(Flights.FIXES, 1);
        x.row(0, 0, Flights.PRESSURES, 1);
        x.set(0, 0, Flights.FIXES, 0, 0xFFF0000000000123L);
        x.set(0, 0, Flights.PRESSURES, 0, 0xFFC12345);
        x.export(0);
        int[] want = {70, 1, 255, 1, 0x7F, 0xF8, 0, 0, 0, 0, 0, 0, 1, 0x7F, 0xC0, 0, 0, 255, 255};
        for (int i = 0; i < want.length; i++) {
            Check.due("out(" + i + ")", x.out(i), want[i]);
        }
        GliderHouse y = rows(Flights.FIXES, 1);
        y.row(0, 0, Flights.PRESSURES, 1);
        y.set(0, 0, Flights.FIXES, 0, 0x7FF8000000000000L);
        y.set(0, 0, Flights.PRESSURES, 0, 0x7FC00000);
        Check.due("both have one DIGEST", x.digest(0), y.digest(0));
    }

    private static void noNumbersReadBack() {
        Check.about("Promise 19", "The OUT, which stays, is read as a TRACE WRITTEN");
        GliderHouse x = rows(Flights.FIXES, 1);
        x.row(0, 0, Flights.PRESSURES, 1);
        x.set(0, 0, Flights.FIXES, 0, 0x7FF8000000000000L);
        x.set(0, 0, Flights.PRESSURES, 0, 0x7FC00000);
        int last = x.export(0) - 1;
        x.alter(4, 0x80);
        x.alter(11, 5);
        x.alter(13, 0x80);
        x.alter(16, 9);
        x.alter(last, 0x80 ^ 5 ^ 0x80 ^ 9);
        Check.due("back()", x.back(), 1);
        Check.due("a FIXES' no number", x.get(1, 0, Flights.FIXES, 0), 0x7FF8000000000000L);
        Check.due("a PRESSURES' no number", x.get(1, 0, Flights.PRESSURES, 0), 0x7FC00000L);
        Check.due("DIGEST", x.digest(1), x.digest(0));
        Check.due("the OUT stays as it was altered", x.out(4), 0xFF);
    }

    private static void noNumberIsNoFix() {
        Check.about("Terms 2", "a finding FIX, and it has none, if these are not numbers from -180 to 180, -90 to 90");
        for (long bits : NO_NUMBERS) {
            GliderHouse x = Flights.still(2, 10);
            x.set(0, 0, Flights.FIXES, 0, bits);
            x.set(0, 0, Flights.FIXES, 3, bits);
            x.recorder(Flights.PLAIN, 0);
            Check.due("read", x.read(0), 2);
            Flights.found(x, 5, 0, 0, 5, 0, 1);
            Check.due("has", x.reading(0, 0, 9), 2);
            Check.due("longitude", x.reading(0, 0, 1), 0);
            Check.due("latitude", x.reading(0, 1, 2), 0);
        }
    }

    private static void zerosAreFixes() {
        Check.about("Terms 2", "a finding FIX, and it has none, if these are not numbers from -180 to 180, -90 to 90");
        GliderHouse x = Flights.flight(10, Flights.fix(-0.0, 0.0), Flights.fix(0.0, -0.0));
        Flights.found(x);
        Check.due("longitude -0", x.reading(0, 0, 1), ZERO_BELOW);
        Check.due("latitude 0", x.reading(0, 0, 2), 0);
        Check.due("longitude 0", x.reading(0, 1, 1), 0);
        Check.due("latitude -0", x.reading(0, 1, 2), ZERO_BELOW);
        Check.due("their WAY", x.way(0, 0, 1), 0);
    }

    private static void endlessIsNoFix() {
        Check.about("Terms 2", "a finding FIX, and it has none, if these are not numbers from -180 to 180, -90 to 90");
        long[] endless = {ENDLESS, ENDLESS_BELOW};
        for (long bits : endless) {
            GliderHouse x = Flights.still(2, 10);
            x.set(0, 0, Flights.FIXES, 0, bits);
            x.set(0, 0, Flights.FIXES, 3, bits);
            x.recorder(Flights.PLAIN, 0);
            x.read(0);
            Flights.found(x, 5, 0, 0, 5, 0, 1);
        }
    }

    private static void pressuresAsRead() {
        Check.about("Promise 24", "3 of its pressure (of a float)");
        int[] bits = {0xFFC00001, 0x7F800000, 0xFF800000, 0x80000000, 0};
        long[] want = {0x7FC00000L, 0x7F800000L, -8388608L, -2147483648L, 0};
        GliderHouse x = Flights.still(bits.length, 10);
        for (int i = 0; i < bits.length; i++) {
            x.set(0, 0, Flights.PRESSURES, i, bits[i]);
        }
        x.recorder(Flights.PLAIN, 0);
        x.read(0);
        Flights.found(x);
        for (int i = 0; i < bits.length; i++) {
            Check.due("reading(0, " + i + ", 3)", x.reading(0, i, 3), want[i]);
            Check.due("reading(0, " + i + ", 9)", x.reading(0, i, 9), 3);
        }
    }

    private static void noNumberHasNoHeight() {
        Check.about("Terms NUMBERS", "what is no number enters nothing");
        GliderHouse x = Flights.still(4, 10);
        Flights.lay(x, 2000f, 0);
        Flights.lay(x, 0f, 2000f);
        for (int i = 0; i < 3; i++) {
            x.set(0, 0, Flights.PRESSURES, i, new int[] {0x7FC00000, 0x7F800000, 0xFF800000}[i]);
        }
        x.recorder(Flights.PLAIN, 0);
        x.read(0);
        for (int i = 0; i < 3; i++) {
            Check.due("height(0, " + i + ")", x.height(0, i), 0x7FC00000);
            Check.due("ground at it", x.ground(0, 10 * i + 10), GliderHouse.NONE);
            Check.due("glide from it", x.glide(0, i, 3), 0x7FC00000);
            Check.due("glide to it", x.glide(0, 3, i), 0x7FC00000);
        }
        Check.due("the pressure 0 has one", x.height(0, 3), Check.bits(2000f));
    }

    private static void noNumberEntersNoWay() {
        Check.about("Terms NUMBERS", "what is no number enters nothing");
        double[] a = Flights.fix(1, 1);
        double[] b = Flights.fix(1.5, 1.25);
        GliderHouse x = Flights.flight(1000, a, Flights.fix(Double.NaN, 0), Flights.fix(0, Double.NaN), b);
        long way = Check.bits(Flights.way(a, b));
        Check.due("way(0, 0, 1)", x.way(0, 0, 1), 0x7FF8000000000000L);
        Check.due("way(0, 2, 3)", x.way(0, 2, 3), 0x7FF8000000000000L);
        Check.due("flown(0)", x.flown(0), way);
        Check.due("best(0)", x.best(0), way);
        Check.due("bound(0)", x.bound(0), way);
    }

    private static void zerosGoOn() {
        Check.about("Promise 14", "for each HERE goes on by dt (0 .. 1000000), then by two numbers (doubles, -10 to 10), then by a float (-100 to 100)");
        int minus = 0x80000000;
        GliderHouse x = new GliderHouse();
        x.trace();
        Check.due("here of -0", x.here(0, 0, ZERO_BELOW, ZERO_BELOW, minus), 1);
        x.fly(0, 1, 0, ZERO_BELOW, 0, minus);
        Check.due("-0 and -0", x.get(0, 0, Flights.FIXES, 0), ZERO_BELOW);
        Check.due("-0 and 0", x.get(0, 0, Flights.FIXES, 1), 0);
        Check.due("-0 and -0, floats", x.get(0, 0, Flights.PRESSURES, 0), minus);
        x.fly(0, 1, 0, 0, ZERO_BELOW, 0);
        Check.due("-0 and 0", x.get(0, 1, Flights.FIXES, 0), 0);
        Check.due("0 and -0", x.get(0, 1, Flights.FIXES, 1), 0);
        Check.due("-0 and 0, floats", x.get(0, 1, Flights.PRESSURES, 0), 0);
    }
}
