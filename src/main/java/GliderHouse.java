/** A house for gliders' recorders; ../shared/DOC.md says what each call promises. */
public final class GliderHouse {
    public static final int NONE = -1, UNKNOWN = -2, OUTSIDE = -3, STATE = -4, FULL = -5, LOST = -11, BEYOND = -12, NOT_THAT = -13, SIZE = -14, SPENT = -15;

    private static final int MOST_TRACES = 6, MOST_RECORDERS = 8;
    private static final int GAP = 0, JUMP = 1, NOISE = 2, DIFFER = 3, SHIFT = 4, SETTINGS = 5;
    private static final int SETTING_REFUSED = -2000000000;
    private static final int[] LEAST_SETTINGS = {1, 1, -2147483648, 0, -1000000};
    private static final int[] MOST_SETTINGS = {100000, 100000, 2147483647, 1000000, 1000000};
    private static final long LATEST_HERE = 1000000000L;

    private final int[] settings = {60, 100, 500, 50, 0};
    private final Table heights = new Table();
    private final Trace[] traces = new Trace[MOST_TRACES];
    private final Recorder[] recorders = new Recorder[MOST_RECORDERS];
    private final Tape tape = new Tape(true);
    private final Tape scales = new Tape(false);
    private final Reader reader = new Reader();
    private final Greatest greatest = new Greatest();
    private final Task course = new Task();
    private final Judge bench = new Judge();
    private int traceCount;
    private int recorderCount;
    private long firstDiffering = NONE;
    private int lackedByOther;
    private int lackedByFirst;
    private int refusal;

    public GliderHouse() {
    }

    // ---- settings

    public int setting(int what, int v) {
        if (what < 0 || what >= SETTINGS || v < LEAST_SETTINGS[what] || v > MOST_SETTINGS[what]) {
            refusal = OUTSIDE;
            return SETTING_REFUSED;
        }
        int was = settings[what];
        settings[what] = v;
        return answer(was);
    }

    public int table(int pressure, int height) {
        if (!heights.fits(pressure, height)) {
            return refuse(OUTSIDE);
        }
        if (heights.count >= Table.MOST) {
            return refuse(FULL);
        }
        heights.lay(pressure, height);
        return answer(heights.count);
    }

    public int clearTable() {
        int were = heights.count;
        heights.count = 0;
        return answer(were);
    }

    public int ceiling(int day, int place, int metres) {
        if (!Judge.isDay(day) || place < 0 || place >= Judge.PLACES || metres < 0 || metres > Judge.HIGHEST) {
            return refuse(OUTSIDE);
        }
        bench.tell(day, place, metres);
        return answer(1);
    }

    public int lack(int day) {
        if (!Judge.isDay(day)) {
            return refuse(OUTSIDE);
        }
        return answer(bench.forget(day));
    }

    // ---- traces

    public int trace() {
        if (traceCount >= MOST_TRACES) {
            return refuse(FULL);
        }
        freeTrace();
        traceCount++;
        return answer(traceCount - 1);
    }

    public int block(int trace) {
        Trace t = traceAt(trace);
        if (t == null) {
            return refuse(UNKNOWN);
        }
        if (t.blocks >= Trace.BLOCKS) {
            return refuse(FULL);
        }
        t.addBlock();
        return answer(t.blocks - 1);
    }

    public int row(int trace, int block, int kind, int n) {
        Trace t = traceWith(trace, block, kind);
        if (t == null) {
            return refuse(UNKNOWN);
        }
        if (n > Trace.CAPACITY[kind]) {
            return refuse(OUTSIDE);
        }
        if (n < -1) {
            return refuse(SIZE);
        }
        t.layRow(block, kind, n);
        return answer(1);
    }

    public int set(int trace, int block, int kind, int i, long bits) {
        Trace t = traceWith(trace, block, kind);
        if (t == null) {
            return refuse(UNKNOWN);
        }
        int trouble = t.itemTrouble(block, kind, i);
        if (trouble != 0) {
            return refuse(trouble);
        }
        t.put(block, kind, i, bits);
        return answer(1);
    }

    public long get(int trace, int block, int kind, int i) {
        Trace t = traceWith(trace, block, kind);
        if (t == null) {
            return refuseLong(UNKNOWN);
        }
        int trouble = t.itemTrouble(block, kind, i);
        if (trouble != 0) {
            return refuseLong(trouble);
        }
        return answerLong(t.itemAt(block, kind, i));
    }

    public int size(int trace, int block, int kind) {
        Trace t = traceWith(trace, block, kind);
        if (t == null) {
            return refuse(UNKNOWN);
        }
        return answer(t.lengthOf(block, kind));
    }

    public int here(int trace, long moment, long longitude, long latitude, int pressure) {
        Trace t = traceAt(trace);
        if (t == null) {
            return refuse(UNKNOWN);
        }
        if (moment < 0L || moment > LATEST_HERE || !Numbers.isFix(longitude, latitude)
                || !Numbers.isFloatWithin(pressure, 0.0f, 2000.0f)) {
            return refuse(OUTSIDE);
        }
        t.moment = moment;
        t.longitude = Numbers.numberOf(longitude);
        t.latitude = Numbers.numberOf(latitude);
        t.pressure = Numbers.floatOf(pressure);
        return answer(1);
    }

    public int fly(int trace, int n, int dt, long dLongitude, long dLatitude, int dPressure) {
        Trace t = traceAt(trace);
        if (t == null) {
            return refuse(UNKNOWN);
        }
        if (n < 1 || n > Trace.CAPACITY[Trace.MOMENTS] || dt < 0 || dt > 1000000
                || !Numbers.isWithin(dLongitude, Numbers.BITS_10) || !Numbers.isWithin(dLatitude, Numbers.BITS_10)
                || !Numbers.isFloatWithin(dPressure, -100.0f, 100.0f)) {
            return refuse(OUTSIDE);
        }
        if (t.blocks >= Trace.BLOCKS) {
            return refuse(FULL);
        }
        double east = Numbers.numberOf(dLongitude);
        double north = Numbers.numberOf(dLatitude);
        float heavier = Numbers.floatOf(dPressure);
        t.addFlight(n);
        for (int i = 0; i < n; i++) {
            t.goOn(dt, east, north, heavier);
            t.layHere(i);
        }
        return answer(t.blocks - 1);
    }

    public int export(int trace) {
        Trace t = traceAt(trace);
        if (t == null) {
            return refuse(UNKNOWN);
        }
        tape.write(t);
        return answer(tape.length);
    }

    public int out(int i) {
        return tape.holds(i) ? tape.byteAt(i) : NONE;
    }

    public int alter(int i, int mask) {
        if (!tape.holds(i)) {
            return refuse(UNKNOWN);
        }
        if (mask < 0 || mask > 255) {
            return refuse(OUTSIDE);
        }
        return answer(tape.xored(i, mask));
    }

    public int cut(int n) {
        if (n < 0 || n > tape.length) {
            return refuse(OUTSIDE);
        }
        int went = tape.length - n;
        tape.length = n;
        return answer(went);
    }

    public int back() {
        if (traceCount >= MOST_TRACES) {
            return refuse(FULL);
        }
        int fault = tape.layInto(freeTrace());
        if (fault >= 0) {
            return answer(-100 - fault);
        }
        traceCount++;
        return answer(traceCount - 1);
    }

    public long digest(int trace) {
        Trace t = traceAt(trace);
        if (t == null) {
            return refuseLong(UNKNOWN);
        }
        scales.write(t);
        return answerLong(scales.hash);
    }

    // ---- recorders

    public int recorder(int kind, int trace) {
        if (kind < Recorder.PLAIN || kind > Recorder.NET) {
            return refuse(OUTSIDE);
        }
        Trace t = traceAt(trace);
        if (t == null) {
            return refuse(UNKNOWN);
        }
        if (recorderCount >= MOST_RECORDERS) {
            return refuse(FULL);
        }
        return addRecorder(new Recorder(kind, t, NONE, NONE));
    }

    public int doubled(int first, int second) {
        Recorder a = recorderAt(first);
        Recorder b = recorderAt(second);
        if (a == null || b == null) {
            return refuse(UNKNOWN);
        }
        if (a.kind == Recorder.DOUBLED || b.kind == Recorder.DOUBLED || first == second) {
            return refuse(OUTSIDE);
        }
        if (recorderCount >= MOST_RECORDERS) {
            return refuse(FULL);
        }
        return addRecorder(new Recorder(Recorder.DOUBLED, null, first, second));
    }

    public int read(int recorder) {
        Recorder r = recorderAt(recorder);
        if (r == null) {
            return refuse(UNKNOWN);
        }
        Readings first = readingsOf(r.first);
        Readings second = readingsOf(r.second);
        if (r.kind == Recorder.DOUBLED && (first == null || second == null)) {
            return refuse(STATE);
        }
        if (reader.met >= Reader.LIMIT) {
            return refuse(FULL);
        }
        reader.begin(settings[SHIFT], settings[JUMP]);
        if (r.trace != null) {
            reader.scan(r.trace, r.kind);
        } else if (first != null && second != null) {
            reader.join(first, second);
        }
        if (reader.met >= Reader.LIMIT) {
            return refuse(SPENT);
        }
        r.readings = reader.publish(r.readings);
        return answer(r.readings.count);
    }

    public long reading(int recorder, int k, int what) {
        Readings r = readingsOf(recorder);
        if (r == null) {
            return refuseLong(whyNotRead(recorder));
        }
        if (!r.knows(k) || what < 0 || what > 9) {
            return refuseLong(UNKNOWN);
        }
        return answerLong(r.tell(k, what));
    }

    public int finding(int k, int what) {
        return reader.toldOf(k, what);
    }

    public int ground(int recorder, long moment) {
        Recorder r = readRecorder(recorder);
        if (r == null) {
            return refuse(whyNotRead(recorder));
        }
        return answer(r.groundAt(heights, moment) ? 1 : NONE);
    }

    public int height(int recorder, int k) {
        Recorder r = readRecorder(recorder);
        if (r == null) {
            refusal = whyNotRead(recorder);
            return 0;
        }
        if (!r.knowsAll(k, k)) {
            refusal = UNKNOWN;
            return 0;
        }
        return answer(r.heightBits(heights, k));
    }

    public long way(int recorder, int i, int j) {
        Readings r = readingsOf(recorder);
        if (r == null) {
            return refuseLong(whyNotRead(recorder));
        }
        if (!r.knows(i) || !r.knows(j)) {
            return refuseLong(UNKNOWN);
        }
        boolean fixed = r.hasAll(i, Readings.FIX) && r.hasAll(j, Readings.FIX);
        return answerLong(fixed ? Numbers.bitsOf(r.wayTo(i, r, j)) : Numbers.NO_NUMBER);
    }

    public int glide(int recorder, int i, int j) {
        Recorder r = readRecorder(recorder);
        if (r == null) {
            refusal = whyNotRead(recorder);
            return 0;
        }
        if (!r.knowsAll(i, j)) {
            refusal = UNKNOWN;
            return 0;
        }
        return answer(r.glideBits(heights, i, j));
    }

    public int compare(int recorder, int i, int j, int k, int l) {
        Recorder r = readRecorder(recorder);
        if (r == null) {
            return refuse(whyNotRead(recorder));
        }
        if (!r.knowsAll(i, j) || !r.knowsAll(k, l)) {
            return refuse(UNKNOWN);
        }
        int a = r.glideBits(heights, i, j);
        int b = r.glideBits(heights, k, l);
        if (a == Numbers.NO_FLOAT || b == Numbers.NO_FLOAT) {
            return answer(2);
        }
        return answer(Integer.compare(Numbers.rankOf(a), Numbers.rankOf(b)));
    }

    public int bestGlide(int recorder) {
        Recorder r = readRecorder(recorder);
        if (r == null) {
            return refuse(whyNotRead(recorder));
        }
        return answer(r.greatestGlide(heights));
    }

    public long flown(int recorder) {
        Readings r = readingsOf(recorder);
        if (r == null) {
            return refuseLong(whyNotRead(recorder));
        }
        double together = 0.0;
        for (int i = 1; i < r.keptCount; i++) {
            together = together + r.wayTo(r.kept[i - 1], r, r.kept[i]);
        }
        return answerLong(Numbers.bitsOf(together));
    }

    public long best(int recorder) {
        Readings r = readingsOf(recorder);
        if (r == null) {
            return refuseLong(whyNotRead(recorder));
        }
        double longest = greatest.longestOf(r);
        greatest.markCorners();
        return answerLong(Numbers.bitsOf(longest));
    }

    public int corner(int k) {
        return greatest.cornerAt(k);
    }

    public long bound(int recorder) {
        Readings r = readingsOf(recorder);
        if (r == null) {
            return refuseLong(whyNotRead(recorder));
        }
        return answerLong(Numbers.bitsOf(greatest.boundOf(r)));
    }

    // ---- tasks, judging

    public int point(int kind, long longitude, long latitude, long a, long b) {
        if (!course.fits(kind, longitude, latitude, a, b)) {
            return refuse(OUTSIDE);
        }
        if (course.count >= Task.MOST) {
            return refuse(FULL);
        }
        course.count++;
        return answer(course.count);
    }

    public int clearTask() {
        int were = course.count;
        course.count = 0;
        return answer(were);
    }

    public int task(int recorder) {
        Readings r = readingsOf(recorder);
        if (r == null) {
            return refuse(whyNotRead(recorder));
        }
        course.follow(r, settings[GAP]);
        return answer(course.reachedCount);
    }

    public long reached(int k) {
        return k >= 0 && k < course.reachedCount ? course.reachedMoments[k] : NONE;
    }

    public long taskWay() {
        return Numbers.bitsOf(course.together);
    }

    public int judge(int recorder) {
        Recorder r = readRecorder(recorder);
        if (r == null) {
            return refuse(whyNotRead(recorder));
        }
        bench.weigh(r, heights, settings[GAP], settings[NOISE]);
        return answer(bench.count);
    }

    public long cause(int k, int what) {
        if (k < 0 || k >= bench.count || what < 0 || what > 1) {
            return UNKNOWN;
        }
        return what == 0 ? bench.causes[k] : bench.moments[k];
    }

    public int engine(int recorder) {
        Recorder r = recorderAt(recorder);
        if (r == null) {
            return refuse(UNKNOWN);
        }
        if (r.kind != Recorder.MOTOR) {
            return refuse(NOT_THAT);
        }
        if (r.readings == null) {
            return refuse(STATE);
        }
        return answer(r.readings.greatestNoise());
    }

    public int marks(int recorder, int v) {
        Recorder r = recorderAt(recorder);
        if (r == null) {
            return refuse(UNKNOWN);
        }
        if (r.kind != Recorder.NET) {
            return refuse(NOT_THAT);
        }
        if (r.readings == null) {
            return refuse(STATE);
        }
        return answer(r.readings.countMarks(v));
    }

    public int part(int recorder, int which) {
        Recorder r = recorderAt(recorder);
        if (r == null) {
            return refuse(UNKNOWN);
        }
        if (which < 0 || which > 1) {
            return refuse(OUTSIDE);
        }
        if (r.kind != Recorder.DOUBLED) {
            return refuse(NOT_THAT);
        }
        return answer(which == 0 ? r.first : r.second);
    }

    public int differ(int recorder, int other) {
        if (recorderAt(recorder) == null || recorderAt(other) == null) {
            return refuse(UNKNOWN);
        }
        Readings a = readingsOf(recorder);
        Readings b = readingsOf(other);
        if (a == null || b == null) {
            return refuse(STATE);
        }
        return answer(countDiffering(a, b));
    }

    public long lacks(int what) {
        switch (what) {
            case 0:
                return firstDiffering;
            case 1:
                return lackedByOther;
            case 2:
                return lackedByFirst;
            default:
                return UNKNOWN;
        }
    }

    public int count(int what) {
        switch (what) {
            case 0:
                return traceCount;
            case 1:
                return recorderCount;
            case 2:
                return course.count;
            case 3:
                return heights.count;
            case 4:
                return reader.foundCount;
            case 5:
                return reader.opened;
            case 6:
                return reader.closed;
            case 7:
                return reader.met;
            case 8:
                return tape.length;
            case 9:
                return bench.told;
            default:
                return OUTSIDE;
        }
    }

    public int status() {
        return refusal;
    }

    private int refuse(int why) {
        refusal = why;
        return why;
    }

    private long refuseLong(int why) {
        refusal = why;
        return 0L;
    }

    private int answer(int value) {
        refusal = 0;
        return value;
    }

    private long answerLong(long value) {
        refusal = 0;
        return value;
    }

    private Trace traceAt(int trace) {
        return trace >= 0 && trace < traceCount ? traces[trace] : null;
    }

    private Trace traceWith(int trace, int block, int kind) {
        Trace t = traceAt(trace);
        return t != null && t.hasRow(block, kind) ? t : null;
    }

    /** The next TRACE's room, emptied; a back() that fails leaves it for the next one, so that nothing is made anew. */
    private Trace freeTrace() {
        Trace t = traces[traceCount];
        if (t == null) {
            t = new Trace();
            traces[traceCount] = t;
        }
        t.clear();
        return t;
    }

    private int addRecorder(Recorder r) {
        recorders[recorderCount] = r;
        recorderCount++;
        return answer(recorderCount - 1);
    }

    private Recorder recorderAt(int recorder) {
        return recorder >= 0 && recorder < recorderCount ? recorders[recorder] : null;
    }

    private Recorder readRecorder(int recorder) {
        Recorder r = recorderAt(recorder);
        return r != null && r.readings != null ? r : null;
    }

    private Readings readingsOf(int recorder) {
        Recorder r = recorderAt(recorder);
        return r == null ? null : r.readings;
    }

    private int whyNotRead(int recorder) {
        return recorderAt(recorder) == null ? UNKNOWN : STATE;
    }

    /** KEPT moments rise strictly in both, so one step along the two finds all that are equal. */
    private int countDiffering(Readings a, Readings b) {
        int differing = 0;
        int shared = 0;
        int j = 0;
        firstDiffering = NONE;
        for (int i = 0; i < a.keptCount; i++) {
            long moment = a.moments[a.kept[i]];
            while (j < b.keptCount && b.moments[b.kept[j]] < moment) {
                j++;
            }
            if (j < b.keptCount && b.moments[b.kept[j]] == moment) {
                shared++;
                if (a.wayTo(a.kept[i], b, b.kept[j]) > (double) settings[DIFFER]) {
                    firstDiffering = differing == 0 ? moment : firstDiffering;
                    differing++;
                }
            }
        }
        lackedByOther = a.keptCount - shared;
        lackedByFirst = b.keptCount - shared;
        return differing;
    }

    /** Doubles and floats by their bits, made with plain arithmetic because the library's functions are not allowed. */
    private static final class Numbers {
        static final long NO_NUMBER = 0x7FF8000000000000L;
        static final int NO_FLOAT = 0x7FC00000;
        static final int ENDLESS = 0x7F800000;
        static final long BITS_10 = 0x4024000000000000L;
        private static final long BITS_90 = 0x4056800000000000L, BITS_180 = 0x4066800000000000L;
        private static final long EXPONENT = 0x7FF0000000000000L;
        private static final long MAGNITUDE = 0x7FFFFFFFFFFFFFFFL;
        private static final long SIGN = 0x8000000000000000L;
        private static final long LEADING = 0x0010000000000000L;
        private static final int FLOAT_SIGN = 0x80000000;

        static long plainBits(long bits) {
            return (bits & MAGNITUDE) > EXPONENT ? NO_NUMBER : bits;
        }

        static int plainFloatBits(int bits) {
            return (bits & 0x7FFFFFFF) > ENDLESS ? NO_FLOAT : bits;
        }

        static boolean isFinite(long bits) {
            return (bits & EXPONENT) != EXPONENT;
        }

        static boolean isFiniteFloat(int bits) {
            return (bits & ENDLESS) != ENDLESS;
        }

        /** Whether a number lies between the limit below 0 and above it: without the sign, bits rise as numbers do. */
        static boolean isWithin(long bits, long limitBits) {
            return (bits & MAGNITUDE) <= limitBits;
        }

        static boolean isFix(long longitude, long latitude) {
            return isWithin(longitude, BITS_180) && isWithin(latitude, BITS_90);
        }

        static boolean isFloatWithin(int bits, float least, float most) {
            if (!isFiniteFloat(bits)) {
                return false;
            }
            float x = floatOf(bits);
            return x >= least && x <= most;
        }

        /** x times 2 to the k-th, by the binary digits of k; exact wherever the outcome can be told exactly. */
        static double scaled(double x, int k) {
            double step = k < 0 ? 0.5 : 2.0;
            int left = k < 0 ? 0 - k : k;
            double y = x;
            for (int digit = 0; digit < 11 && left > 0; digit++) {
                if ((left & 1) == 1) {
                    y = y * step;
                }
                left = left >> 1;
                if (left > 0) {
                    step = step * step;
                }
            }
            return y;
        }

        /** Of finite bits; others are tested away by each caller, and are 0 here so that no NaN can come up. */
        static double numberOf(long bits) {
            if (!isFinite(bits)) {
                return 0.0;
            }
            int exponent = (int) ((bits & EXPONENT) >>> 52);
            long digits = bits & (LEADING - 1L);
            if (exponent == 0) {
                exponent = 1;
            } else {
                digits = digits + LEADING;
            }
            double x = scaled((double) digits, exponent - 1075);
            return bits < 0L ? -1.0 * x : x;
        }

        static float floatOf(int bits) {
            if (!isFiniteFloat(bits)) {
                return 0.0f;
            }
            int exponent = (bits & ENDLESS) >>> 23;
            int digits = bits & 0x007FFFFF;
            if (exponent == 0) {
                exponent = 1;
            } else {
                digits = digits + 0x00800000;
            }
            double x = scaled((double) digits, exponent - 150);
            return (float) (bits < 0 ? -1.0 * x : x);
        }

        /** Zeros of both signs are equal in every comparison; only what 1 is by them tells them apart. */
        private static boolean isBelowZero(double x) {
            return x == 0.0 ? 1.0 / x < 0.0 : x < 0.0;
        }

        static long bitsOf(double x) {
            boolean below = isBelowZero(x);
            long bits = magnitudeBits(below ? -1.0 * x : x);
            return below ? bits | SIGN : bits;
        }

        private static long magnitudeBits(double x) {
            if (x < 2.2250738585072014E-308) {
                return (long) scaled(scaled(x, 537), 537);
            }
            double a = x;
            int exponent = 1023;
            for (int i = 0; i < 64 && a >= 65536.0; i++) {
                a = a * 1.52587890625E-5;
                exponent = exponent + 16;
            }
            for (int i = 0; i < 64 && a < 1.52587890625E-5; i++) {
                a = a * 65536.0;
                exponent = exponent - 16;
            }
            for (int i = 0; i < 16 && a >= 2.0; i++) {
                a = a * 0.5;
                exponent++;
            }
            for (int i = 0; i < 16 && a < 1.0; i++) {
                a = a * 2.0;
                exponent--;
            }
            return ((long) exponent << 52) + ((long) (a * 4503599627370496.0) - LEADING);
        }

        static int floatBitsOf(float x) {
            boolean below = isBelowZero((double) x);
            double a = below ? -1.0 * x : (double) x;
            int bits;
            if (a > 3.4028234663852886E38) {
                bits = ENDLESS;
            } else if (a < 1.1754943508222875E-38) {
                bits = (int) scaled(a, 149);
            } else {
                long wide = magnitudeBits(a);
                bits = (((int) (wide >>> 52) - 896) << 23) + (int) ((wide & (LEADING - 1L)) >>> 29);
            }
            return below ? bits | FLOAT_SIGN : bits;
        }

        /** Ints in the order of the floats (endless ones too) whose bits they are made of; both zeros are 0. */
        static int rankOf(int floatBits) {
            return floatBits >= 0 ? floatBits : FLOAT_SIGN - floatBits;
        }

        /** The root, rounded as the machine's own is: a first guess in doubles, then the rest in whole numbers. */
        static double rootOf(double x) {
            if (x <= 0.0) {
                return 0.0;
            }
            double a = x;
            double unit = 2.220446049250313E-16;
            for (int i = 0; i < 40 && a >= 4294967296.0; i++) {
                a = a * 2.3283064365386963E-10;
                unit = unit * 65536.0;
            }
            for (int i = 0; i < 40 && a < 2.3283064365386963E-10; i++) {
                a = a * 4294967296.0;
                unit = unit * 1.52587890625E-5;
            }
            for (int i = 0; i < 20 && a >= 4.0; i++) {
                a = a * 0.25;
                unit = unit * 2.0;
            }
            for (int i = 0; i < 20 && a < 1.0; i++) {
                a = a * 4.0;
                unit = unit * 0.5;
            }
            double y = 0.35 * a + 0.7;
            for (int i = 0; i < 4; i++) {
                y = (y + a / y) * 0.5;
            }
            long square = (long) (a * 4503599627370496.0) << 52;
            long q = (long) (y * 4503599627370496.0);
            // what lies beyond 64 bits is the same in both, so the wrapped difference is the true one
            for (int i = 0; i < 8; i++) {
                long rest = square - q * q;
                if (rest > q) {
                    q++;
                } else if (rest <= 0L - q) {
                    q--;
                } else {
                    break;
                }
            }
            return (double) q * unit;
        }

        static double cosineOf(double latitude) {
            double r = latitude * 0.017453292519943295;
            double s = r * r;
            return 1.0 - s * (0.5 - s * (0.041666666666666664 - s * 0.001388888888888889));
        }

        static double squaredWay(double longitude, double latitude, double toLongitude, double toLatitude) {
            double middle = (latitude + toLatitude) * 0.5;
            double u = (toLongitude - longitude) * cosineOf(middle) * 111319.49079327358;
            double v = (toLatitude - latitude) * 111319.49079327358;
            return u * u + v * v;
        }
    }

    /** Blocks of rows in one long array each, so that a row can grow and shrink without anything being made. */
    private static final class Trace {
        static final int BLOCKS = 8, KINDS = 5, MOMENTS = 0, FIXES = 1, PRESSURES = 2, NOISES = 3, MARKS = 4;
        static final int[] CAPACITY = {24, 48, 24, 24, 24};
        static final int[] WIDTHS = {8, 8, 4, 4, 1};
        private static final int[] STARTS = {0, 24, 72, 96, 120};
        private static final int ROOM = 144;

        private final long[] items = new long[BLOCKS * ROOM];
        private final int[] lengths = new int[BLOCKS * KINDS];
        int blocks;
        long moment;
        double longitude;
        double latitude;
        float pressure;

        void clear() {
            blocks = 0;
            moment = 0L;
            longitude = 0.0;
            latitude = 0.0;
            pressure = 0.0f;
        }

        void addBlock() {
            if (blocks >= BLOCKS) {
                return;
            }
            for (int kind = 0; kind < KINDS; kind++) {
                lengths[blocks * KINDS + kind] = -1;
            }
            blocks++;
        }

        boolean hasRow(int block, int kind) {
            return block >= 0 && block < blocks && kind >= 0 && kind < KINDS;
        }

        int lengthOf(int block, int kind) {
            return hasRow(block, kind) ? lengths[block * KINDS + kind] : -1;
        }

        void layRow(int block, int kind, int n) {
            if (!hasRow(block, kind) || n > CAPACITY[kind]) {
                return;
            }
            lengths[block * KINDS + kind] = n;
            int start = block * ROOM + STARTS[kind];
            for (int i = 0; i < n; i++) {
                items[start + i] = 0L;
            }
        }

        int itemTrouble(int block, int kind, int i) {
            int n = hasRow(block, kind) ? lengths[block * KINDS + kind] : -1;
            if (n < 0) {
                return LOST;
            }
            return i < 0 || i >= n ? BEYOND : 0;
        }

        long itemAt(int block, int kind, int i) {
            return itemTrouble(block, kind, i) == 0 ? items[block * ROOM + STARTS[kind] + i] : 0L;
        }

        void put(int block, int kind, int i, long bits) {
            if (itemTrouble(block, kind, i) == 0) {
                items[block * ROOM + STARTS[kind] + i] = asKind(kind, bits);
            }
        }

        private static long asKind(int kind, long bits) {
            switch (kind) {
                case FIXES:
                    return Numbers.plainBits(bits);
                case PRESSURES:
                    return Numbers.plainFloatBits((int) bits);
                case NOISES:
                    return (int) bits;
                case MARKS:
                    return (byte) bits;
                default:
                    return bits;
            }
        }

        void addFlight(int n) {
            int block = blocks;
            addBlock();
            for (int kind = 0; kind < KINDS; kind++) {
                layRow(block, kind, kind == FIXES ? 2 * n : n);
            }
        }

        void goOn(int dt, double east, double north, float heavier) {
            moment = moment + dt;
            longitude = longitude + east;
            latitude = latitude + north;
            pressure = pressure + heavier;
        }

        void layHere(int i) {
            int block = blocks - 1;
            put(block, MOMENTS, i, moment);
            put(block, FIXES, 2 * i, Numbers.bitsOf(longitude));
            put(block, FIXES, 2 * i + 1, Numbers.bitsOf(latitude));
            put(block, PRESSURES, i, Numbers.floatBitsOf(pressure));
            put(block, MARKS, i, 1L);
        }
    }

    /** The OUT; one without bytes only reckons the DIGEST of what is written to it. */
    private static final class Tape {
        private static final int ROOM = 6379;
        private static final int HEAD = 70, LOST_ROW = 255;
        private static final long HASH_START = 1469598103934665603L, HASH_FACTOR = 1099511628211L;

        private final byte[] bytes;
        int length;
        long hash;
        private int sum;
        private int at;

        Tape(boolean keeping) {
            bytes = new byte[keeping ? ROOM : 0];
        }

        boolean holds(int i) {
            return i >= 0 && i < length && i < bytes.length;
        }

        int byteAt(int i) {
            return holds(i) ? bytes[i] & 255 : 0;
        }

        int xored(int i, int mask) {
            if (holds(i)) {
                bytes[i] = (byte) (bytes[i] ^ mask);
            }
            return byteAt(i);
        }

        void write(Trace t) {
            length = 0;
            sum = 0;
            hash = HASH_START;
            append(HEAD);
            append(t.blocks);
            for (int block = 0; block < t.blocks; block++) {
                for (int kind = 0; kind < Trace.KINDS; kind++) {
                    appendRow(t, block, kind);
                }
            }
            append(sum);
        }

        private void appendRow(Trace t, int block, int kind) {
            int n = t.lengthOf(block, kind);
            append(n < 0 ? LOST_ROW : n);
            for (int i = 0; i < n; i++) {
                long bits = t.itemAt(block, kind, i);
                for (int shift = 8 * Trace.WIDTHS[kind] - 8; shift >= 0; shift = shift - 8) {
                    append((int) (bits >> shift) & 255);
                }
            }
        }

        private void append(int b) {
            if (length < bytes.length) {
                bytes[length] = (byte) b;
            }
            length++;
            sum = sum ^ b;
            hash = (hash ^ b) * HASH_FACTOR;
        }

        /** The place of the first byte that can not stand there, or -1 when all of it was laid into an empty TRACE. */
        int layInto(Trace t) {
            if (length < 1 || byteAt(0) != HEAD) {
                return 0;
            }
            int blocks = byteAt(1);
            if (length < 2 || blocks > Trace.BLOCKS) {
                return 1;
            }
            at = 2;
            for (int block = 0; block < blocks; block++) {
                t.addBlock();
                for (int kind = 0; kind < Trace.KINDS; kind++) {
                    int fault = takeRow(t, block, kind);
                    if (fault >= 0) {
                        return fault;
                    }
                }
            }
            if (at >= length) {
                return length;
            }
            if (byteAt(at) != sumAhead(at)) {
                return at;
            }
            return at + 1 < length ? at + 1 : -1;
        }

        private int takeRow(Trace t, int block, int kind) {
            if (at >= length) {
                return length;
            }
            int n = byteAt(at);
            if (n != LOST_ROW && n > Trace.CAPACITY[kind]) {
                return at;
            }
            at++;
            if (n == LOST_ROW) {
                return -1;
            }
            if (n * Trace.WIDTHS[kind] > length - at) {
                return length;
            }
            t.layRow(block, kind, n);
            for (int i = 0; i < n; i++) {
                t.put(block, kind, i, takeBits(Trace.WIDTHS[kind]));
            }
            return -1;
        }

        private long takeBits(int width) {
            long bits = 0L;
            for (int i = 0; i < width; i++) {
                bits = (bits << 8) | byteAt(at);
                at++;
            }
            return bits;
        }

        private int sumAhead(int end) {
            int together = 0;
            for (int i = 0; i < end; i++) {
                together = together ^ byteAt(i);
            }
            return together;
        }
    }

    /** THE TABLE of pressures and heights. */
    private static final class Table {
        static final int MOST = 10;

        private final float[] pressures = new float[MOST];
        private final float[] metres = new float[MOST];
        int count;

        boolean fits(int pressure, int height) {
            if (!Numbers.isFloatWithin(pressure, 0.0f, 2000.0f) || !Numbers.isFloatWithin(height, -1000.0f, 40000.0f)) {
                return false;
            }
            return count < 1 || count > MOST || pressures[count - 1] - Numbers.floatOf(pressure) >= 1.0f;
        }

        void lay(int pressure, int height) {
            if (count < MOST) {
                pressures[count] = Numbers.floatOf(pressure);
                metres[count] = Numbers.floatOf(height);
                count++;
            }
        }

        boolean tells(int pressureBits) {
            if (count < 2 || count > MOST || !Numbers.isFiniteFloat(pressureBits)) {
                return false;
            }
            float p = Numbers.floatOf(pressureBits);
            return p >= pressures[count - 1] && p <= pressures[0];
        }

        /** Of a pressure of which it tells one. */
        float heightOf(int pressureBits) {
            if (count < 2 || count > MOST) {
                return 0.0f;
            }
            float p = Numbers.floatOf(pressureBits);
            int f = 1;
            while (f < count - 1 && pressures[f] > p) {
                f++;
            }
            int e = f - 1;
            float apart = pressures[e] - pressures[f];
            // never so, as each POINT lies 1 at least below the one ahead
            if (apart <= 0.0f) {
                return metres[e];
            }
            return metres[e] + (pressures[e] - p) * ((metres[f] - metres[e]) / apart);
        }
    }

    /** What a RECORDER was READ as. */
    private static final class Readings {
        static final int MOST = 192;
        static final int FIX = 1, PRESSURE = 2, NOISE = 4, MARK = 8, ALL = 15;

        final long[] moments = new long[MOST];
        final double[] longitudes = new double[MOST];
        final double[] latitudes = new double[MOST];
        final int[] pressures = new int[MOST];
        final int[] noises = new int[MOST];
        final int[] marks = new int[MOST];
        final int[] has = new int[MOST];
        final int[] blocks = new int[MOST];
        final int[] items = new int[MOST];
        final boolean[] isKept = new boolean[MOST];
        final int[] kept = new int[MOST];
        int count;
        int keptCount;

        void clear() {
            count = 0;
            keptCount = 0;
        }

        boolean knows(int k) {
            return k >= 0 && k < count && k < MOST;
        }

        boolean hasAll(int k, int what) {
            return knows(k) && (has[k] & what) == what;
        }

        /** The new READING's number; NONE if there is no room, which BLOCKS of 24 items can't bring about. */
        int add(long moment, int block, int item) {
            if (count >= MOST) {
                return NONE;
            }
            moments[count] = moment;
            blocks[count] = block;
            items[count] = item;
            has[count] = 0;
            isKept[count] = false;
            count++;
            return count - 1;
        }

        void giveFix(int k, double longitude, double latitude) {
            if (knows(k)) {
                longitudes[k] = longitude;
                latitudes[k] = latitude;
                has[k] = has[k] | FIX;
            }
        }

        void givePressure(int k, int bits) {
            if (knows(k)) {
                pressures[k] = bits;
                has[k] = has[k] | PRESSURE;
            }
        }

        void giveNoise(int k, int noise) {
            if (knows(k)) {
                noises[k] = noise;
                has[k] = has[k] | NOISE;
            }
        }

        void giveMark(int k, int mark) {
            if (knows(k)) {
                marks[k] = mark;
                has[k] = has[k] | MARK;
            }
        }

        /** Gives READING k what it lacks and another one has. */
        void fill(int k, Readings from, int i) {
            int lacking = knows(k) && from.knows(i) ? from.has[i] & ~has[k] : 0;
            if ((lacking & FIX) != 0) {
                giveFix(k, from.longitudes[i], from.latitudes[i]);
            }
            if ((lacking & PRESSURE) != 0) {
                givePressure(k, from.pressures[i]);
            }
            if ((lacking & NOISE) != 0) {
                giveNoise(k, from.noises[i]);
            }
            if ((lacking & MARK) != 0) {
                giveMark(k, from.marks[i]);
            }
        }

        int firstAt(long moment) {
            for (int i = 0; i < count; i++) {
                if (moments[i] == moment) {
                    return i;
                }
            }
            return NONE;
        }

        void keep(int k) {
            if (knows(k) && keptCount < MOST) {
                isKept[k] = true;
                kept[keptCount] = k;
                keptCount++;
            }
        }

        double wayTo(int i, Readings other, int j) {
            if (!knows(i) || !other.knows(j)) {
                return 0.0;
            }
            return Numbers.rootOf(Numbers.squaredWay(longitudes[i], latitudes[i], other.longitudes[j], other.latitudes[j]));
        }

        long tell(int k, int what) {
            if (!knows(k)) {
                return 0L;
            }
            switch (what) {
                case 0:
                    return moments[k];
                case 1:
                    return hasAll(k, FIX) ? Numbers.bitsOf(longitudes[k]) : 0L;
                case 2:
                    return hasAll(k, FIX) ? Numbers.bitsOf(latitudes[k]) : 0L;
                case 3:
                    return hasAll(k, PRESSURE) ? pressures[k] : 0L;
                case 4:
                    return hasAll(k, NOISE) ? noises[k] : 0L;
                case 5:
                    return hasAll(k, MARK) ? marks[k] : 0L;
                case 6:
                    return isKept[k] ? 1L : 0L;
                case 7:
                    return blocks[k];
                case 8:
                    return items[k];
                default:
                    return has[k];
            }
        }

        int greatestNoise() {
            int greatest = NONE;
            boolean found = false;
            for (int k = 0; k < count; k++) {
                if (hasAll(k, NOISE) && (!found || noises[k] > greatest)) {
                    greatest = noises[k];
                    found = true;
                }
            }
            return greatest;
        }

        int countMarks(int v) {
            int equal = 0;
            for (int k = 0; k < count; k++) {
                if (hasAll(k, MARK) && marks[k] == v) {
                    equal++;
                }
            }
            return equal;
        }
    }

    /** A RECORDER of a TRACE, or of two parts by their numbers. */
    private static final class Recorder {
        static final int PLAIN = 0, MOTOR = 1, NET = 2, DOUBLED = 3;

        final int kind;
        final Trace trace;
        final int first;
        final int second;
        Readings readings;
        private float groundHeight;

        Recorder(int kind, Trace trace, int first, int second) {
            this.kind = kind;
            this.trace = trace;
            this.first = first;
            this.second = second;
        }

        boolean knowsAll(int i, int j) {
            return readings != null && readings.knows(i) && readings.knows(j);
        }

        boolean hasHeight(Table t, int k) {
            return readings != null && readings.hasAll(k, Readings.PRESSURE) && t.tells(readings.pressures[k]);
        }

        /** Of a READING that has one. */
        float heightOver(Table t, int k) {
            boolean known = readings != null && readings.knows(k);
            return known ? t.heightOf(readings.pressures[k]) - groundHeight : 0.0f;
        }

        int heightBits(Table t, int k) {
            return hasHeight(t, k) ? Numbers.floatBitsOf(heightOver(t, k)) : Numbers.NO_FLOAT;
        }

        boolean groundAt(Table t, long moment) {
            int n = readings == null ? 0 : readings.count;
            for (int k = 0; k < n; k++) {
                if (readings.moments[k] == moment && hasHeight(t, k)) {
                    groundHeight = t.heightOf(readings.pressures[k]);
                    return true;
                }
            }
            return false;
        }

        int glideBits(Table t, int i, int j) {
            if (!hasHeight(t, i) || !hasHeight(t, j)
                    || !readings.hasAll(i, Readings.FIX) || !readings.hasAll(j, Readings.FIX)) {
                return Numbers.NO_FLOAT;
            }
            double way = readings.wayTo(i, readings, j);
            float sunk = heightOver(t, i) - heightOver(t, j);
            if (sunk == 0.0f) {
                return way == 0.0 ? Numbers.NO_FLOAT : Numbers.ENDLESS;
            }
            return Numbers.floatBitsOf((float) way / sunk);
        }

        int greatestGlide(Table t) {
            int best = NONE;
            int bestRank = 0;
            int n = readings == null ? 0 : readings.keptCount;
            for (int i = 1; i < n; i++) {
                int from = readings.kept[i - 1];
                int bits = glideBits(t, from, readings.kept[i]);
                int rank = Numbers.rankOf(bits);
                if (bits != Numbers.NO_FLOAT && (best == NONE || rank > bestRank)) {
                    best = from;
                    bestRank = rank;
                }
            }
            return best;
        }
    }

    /** Reads into a draft, which takes the place of what was READ before only when nothing ended it. */
    private static final class Reader {
        static final int LIMIT = 4000;
        private static final int TOLD = 64, PARTS = 3;
        private static final int F_LOST = 1, F_BEYOND = 2, F_SHARED = 3, F_MOMENT = 4, F_FIX = 5, F_JUMP = 6;
        private static final long LATEST = 999999999999L;

        int opened;
        int closed;
        int met;
        int foundCount;
        private int[] found = new int[TOLD * PARTS];
        private int[] draftFound = new int[TOLD * PARTS];
        private int draftCount;
        private Readings draft = new Readings();
        private Trace trace;
        private int kind;
        private int shift;
        private int jump;
        private int block;
        private int goneRows;

        void begin(int shiftNow, int jumpNow) {
            draft.clear();
            draftCount = 0;
            shift = shiftNow;
            jump = jumpNow;
        }

        /** The draft; the room of what it takes the place of is used for the next one. */
        Readings publish(Readings before) {
            Readings done = draft;
            draft = before == null ? new Readings() : before;
            int[] old = found;
            found = draftFound;
            draftFound = old;
            foundCount = draftCount;
            return done;
        }

        int toldOf(int k, int what) {
            boolean told = k >= 0 && k < foundCount && k < TOLD && what >= 0 && what < PARTS;
            return told ? found[k * PARTS + what] : UNKNOWN;
        }

        void scan(Trace from, int recorderKind) {
            trace = from;
            kind = recorderKind;
            for (int b = 0; b < from.blocks && met < LIMIT; b++) {
                opened++;
                block = b;
                goneRows = 0;
                int n = from.lengthOf(b, Trace.MOMENTS);
                if (n < 0) {
                    note(F_LOST, b, -1);
                }
                boolean goesOn = true;
                for (int i = 0; i < n && goesOn && met < LIMIT; i++) {
                    goesOn = scanItem(i);
                }
                closed++;
            }
        }

        /** Whether the BLOCK goes on behind item i. */
        private boolean scanItem(int i) {
            int mark = 0;
            long moment = trace.itemAt(block, Trace.MOMENTS, i);
            if (kind == Recorder.NET) {
                if (!canTake(Trace.MARKS, i, i)) {
                    return false;
                }
                mark = (int) trace.itemAt(block, Trace.MARKS, i);
                if (mark == 0) {
                    note(F_SHARED, block, i);
                    return false;
                }
                moment = moment + shift / mark;
            } else {
                moment = moment + shift;
            }
            if (moment < 0L || moment > LATEST) {
                note(F_MOMENT, block, i);
                return true;
            }
            int k = draft.add(moment, block, i);
            if (kind == Recorder.NET) {
                draft.giveMark(k, mark);
            }
            takeFix(k, i);
            settle(k);
            if (canTake(Trace.PRESSURES, i, i)) {
                draft.givePressure(k, (int) trace.itemAt(block, Trace.PRESSURES, i));
            }
            if (kind == Recorder.MOTOR && canTake(Trace.NOISES, i, i)) {
                draft.giveNoise(k, (int) trace.itemAt(block, Trace.NOISES, i));
            }
            return true;
        }

        private void takeFix(int k, int i) {
            if (!canTake(Trace.FIXES, i, 2 * i + 1)) {
                return;
            }
            long longitude = trace.itemAt(block, Trace.FIXES, 2 * i);
            long latitude = trace.itemAt(block, Trace.FIXES, 2 * i + 1);
            if (Numbers.isFix(longitude, latitude)) {
                draft.giveFix(k, Numbers.numberOf(longitude), Numbers.numberOf(latitude));
            } else {
                note(F_FIX, block, i);
            }
        }

        /** Whether a ROW has the item wanted; where it first has not, that is noted, and the ROW is gone. */
        private boolean canTake(int row, int i, int wanted) {
            if ((goneRows & (1 << row)) != 0) {
                return false;
            }
            int n = trace.lengthOf(block, row);
            if (n > wanted) {
                return true;
            }
            goneRows = goneRows | (1 << row);
            note(n < 0 ? F_LOST : F_BEYOND, block, i);
            return false;
        }

        /** A READING with a fix is KEPT, or it JUMPS. */
        private void settle(int k) {
            if (!draft.hasAll(k, Readings.FIX)) {
                return;
            }
            if (draft.keptCount > 0) {
                int last = draft.kept[draft.keptCount - 1];
                long seconds = draft.moments[k] - draft.moments[last];
                if (seconds < 1L || draft.wayTo(last, draft, k) > (double) jump * (double) seconds) {
                    note(F_JUMP, draft.blocks[k], draft.items[k]);
                    return;
                }
            }
            draft.keep(k);
        }

        void join(Readings first, Readings second) {
            for (int i = 0; i < first.count; i++) {
                int k = draft.add(first.moments[i], first.blocks[i], first.items[i]);
                draft.fill(k, first, i);
                if (!draft.hasAll(k, Readings.ALL)) {
                    draft.fill(k, second, second.firstAt(first.moments[i]));
                }
                settle(k);
            }
        }

        private void note(int what, int inBlock, int item) {
            if (met >= LIMIT) {
                return;
            }
            if (draftCount < TOLD) {
                draftFound[draftCount * PARTS] = what;
                draftFound[draftCount * PARTS + 1] = inBlock;
                draftFound[draftCount * PARTS + 2] = item;
            }
            draftCount++;
            if (what <= F_SHARED) {
                met++;
            }
        }
    }

    /** A POINT of the TASK and its PLANE. */
    private static final class Point {
        static final int LINE = 0, CYLINDER = 1, SECTOR = 2;
        private static final long WIDEST = 1000000L;

        double longitude;
        double latitude;
        private int kind;
        private double cosine;
        private double endU;
        private double endV;
        private double radius;
        private int quarter;
        private double low;
        private double high;

        /** Becomes what is told, if that is as it must be. */
        boolean takes(int newKind, long lon, long lat, long a, long b) {
            if (newKind < LINE || newKind > SECTOR || !Numbers.isFix(lon, lat)) {
                return false;
            }
            kind = newKind;
            longitude = Numbers.numberOf(lon);
            latitude = Numbers.numberOf(lat);
            cosine = Numbers.cosineOf(latitude);
            if (newKind == LINE) {
                return takesEnd(a, b);
            }
            if (a < 1L || a > WIDEST || newKind == SECTOR && (b < 0L || b > 3L)) {
                return false;
            }
            radius = (double) a;
            quarter = newKind == SECTOR ? (int) b : 0;
            return true;
        }

        private boolean takesEnd(long lon, long lat) {
            if (!Numbers.isFix(lon, lat)) {
                return false;
            }
            endU = uOf(Numbers.numberOf(lon));
            endV = vOf(Numbers.numberOf(lat));
            return endU * endU + endV * endV != 0.0;
        }

        double uOf(double lon) {
            return (lon - longitude) * cosine * 111319.49079327358;
        }

        double vOf(double lat) {
            return (lat - latitude) * 111319.49079327358;
        }

        boolean holds(double u, double v) {
            if (kind == LINE) {
                return endU * v - endV * u == 0.0 && isAlong(u, v);
            }
            return isNear(u, v) && (kind == CYLINDER || inQuarter(u, v));
        }

        private boolean isAlong(double u, double v) {
            double along = u * endU + v * endV;
            return along >= 0.0 && along <= endU * endU + endV * endV;
        }

        private boolean isNear(double u, double v) {
            return u * u + v * v <= radius * radius;
        }

        private boolean isWest() {
            return quarter == 1 || quarter == 2;
        }

        private boolean isSouth() {
            return quarter >= 2;
        }

        private boolean inQuarter(double u, double v) {
            return (isWest() ? u <= 0.0 : u >= 0.0) && (isSouth() ? v <= 0.0 : v >= 0.0);
        }

        /** Which part of the way from (u, v) to (u2, v2) is flown when it CROSSES; below 0 if it does not. */
        double crossingOf(double u, double v, double u2, double v2) {
            return kind == LINE ? lineCrossing(u, v, u2, v2) : roundCrossing(u, v, u2 - u, v2 - v);
        }

        private double lineCrossing(double u, double v, double u2, double v2) {
            double s = endU * v - endV * u;
            double e = endU * v2 - endV * u2;
            boolean meets = s >= 0.0 && e <= 0.0 || s <= 0.0 && e >= 0.0;
            if (!meets || s - e == 0.0) {
                return -1.0;
            }
            double t = s / (s - e);
            return isAlong(u + t * (u2 - u), v + t * (v2 - v)) ? t : -1.0;
        }

        private double roundCrossing(double u, double v, double du, double dv) {
            low = 0.0;
            high = 1.0;
            if (kind == SECTOR) {
                boolean inU = isWest() ? narrows(0.0 - u, 0.0 - du) : narrows(u, du);
                boolean inV = isSouth() ? narrows(0.0 - v, 0.0 - dv) : narrows(v, dv);
                if (!inU || !inV) {
                    return -1.0;
                }
            }
            double dd = du * du + dv * dv;
            if (low > high || dd == 0.0) {
                return -1.0;
            }
            double t = (0.0 - (u * du + v * dv)) / dd;
            if (t < low) {
                t = low;
            } else if (t > high) {
                t = high;
            }
            return isNear(u + t * du, v + t * dv) ? t : -1.0;
        }

        private boolean narrows(double x, double dx) {
            if (dx == 0.0) {
                return x >= 0.0;
            }
            double t = (0.0 - x) / dx;
            if (dx > 0.0) {
                low = t > low ? t : low;
            } else {
                high = t < high ? t : high;
            }
            return true;
        }
    }

    /** The TASK's POINTS, and how the latest flight REACHED them. */
    private static final class Task {
        static final int MOST = 6;

        final long[] reachedMoments = new long[MOST];
        int count;
        int reachedCount;
        double together;
        // one more than there may be: a POINT is looked at there before it is known whether there is room
        private final Point[] points = new Point[MOST + 1];
        private int at;
        private boolean asksAlone;
        private long meeting;

        Task() {
            for (int i = 0; i < points.length; i++) {
                points[i] = new Point();
            }
        }

        boolean fits(int kind, long longitude, long latitude, long a, long b) {
            return points[count].takes(kind, longitude, latitude, a, b);
        }

        void follow(Readings r, int gap) {
            at = 0;
            asksAlone = true;
            reachedCount = 0;
            together = 0.0;
            while (reachedCount < count && seek(points[reachedCount], r, gap)) {
                reachedMoments[reachedCount] = meeting;
                if (reachedCount > 0) {
                    together = together + wayTo(reachedCount);
                }
                reachedCount++;
            }
        }

        private double wayTo(int k) {
            Point a = points[k - 1];
            Point b = points[k];
            return Numbers.rootOf(Numbers.squaredWay(a.longitude, a.latitude, b.longitude, b.latitude));
        }

        private boolean seek(Point p, Readings r, int gap) {
            while (at < r.keptCount) {
                int a = r.kept[at];
                if (asksAlone && p.holds(p.uOf(r.longitudes[a]), p.vOf(r.latitudes[a]))) {
                    meeting = r.moments[a];
                    asksAlone = false;
                    return true;
                }
                asksAlone = true;
                at++;
                if (at < r.keptCount && crosses(p, r, a, r.kept[at], gap)) {
                    return true;
                }
            }
            return false;
        }

        private boolean crosses(Point p, Readings r, int a, int b, int gap) {
            long seconds = r.moments[b] - r.moments[a];
            if (seconds > gap) {
                return false;
            }
            double t = p.crossingOf(p.uOf(r.longitudes[a]), p.vOf(r.latitudes[a]),
                    p.uOf(r.longitudes[b]), p.vOf(r.latitudes[b]));
            if (t < 0.0) {
                return false;
            }
            meeting = r.moments[a] + (long) (t * (double) seconds + 0.5);
            return true;
        }
    }

    /** THE GREATEST WAY; a WAY of two fixes is reckoned once for all numbers of corners. */
    private static final class Greatest {
        private static final int MOST = 60, LEGS = 5;

        private final int[] chosen = new int[MOST];
        private final double[] sums = new double[LEGS * MOST];
        private final int[] from = new int[LEGS * MOST];
        private final int[] corners = new int[LEGS - 1];
        private int chosenCount;
        private int others;
        private int cornerCount;

        int cornerAt(int k) {
            return k >= 0 && k < cornerCount ? corners[k] : NONE;
        }

        double longestOf(Readings r) {
            choose(r);
            others = 0;
            if (chosenCount < 2) {
                return 0.0;
            }
            for (int j = 1; j < chosenCount; j++) {
                extendTo(r, j);
            }
            int last = chosenCount - 1;
            for (int k = 1; k < LEGS; k++) {
                if (sums[k * MOST + last] > sums[others * MOST + last]) {
                    others = k;
                }
            }
            return sums[others * MOST + last];
        }

        private void choose(Readings r) {
            int each = r.keptCount <= MOST ? 1 : (r.keptCount + MOST - 1) / MOST;
            chosenCount = 0;
            for (int i = 0; i < r.keptCount && chosenCount < MOST; i = i + each) {
                chosen[chosenCount] = r.kept[i];
                chosenCount++;
            }
        }

        /** Sums of k others to j, below 0 where there is none. */
        private void extendTo(Readings r, int j) {
            sums[j] = r.wayTo(chosen[0], r, chosen[j]);
            for (int k = 1; k < LEGS; k++) {
                sums[k * MOST + j] = -1.0;
            }
            for (int i = 1; i < j; i++) {
                double leg = r.wayTo(chosen[i], r, chosen[j]);
                for (int k = 1; k < LEGS; k++) {
                    double before = sums[(k - 1) * MOST + i];
                    if (before >= 0.0 && before + leg > sums[k * MOST + j]) {
                        sums[k * MOST + j] = before + leg;
                        from[k * MOST + j] = i;
                    }
                }
            }
        }

        /** Only best() tells its CORNERS; bound() reckons the same way and leaves them. */
        void markCorners() {
            cornerCount = others;
            int j = chosenCount - 1;
            for (int k = others; k > 0 && j > 0; k--) {
                j = from[k * MOST + j];
                corners[k - 1] = chosen[j];
            }
        }

        double boundOf(Readings r) {
            if (r.keptCount <= MOST) {
                return longestOf(r);
            }
            double widest = 0.0;
            for (int i = 0; i < r.keptCount; i++) {
                double longitude = r.longitudes[r.kept[i]];
                double latitude = r.latitudes[r.kept[i]];
                for (int j = i + 1; j < r.keptCount; j++) {
                    int k = r.kept[j];
                    double squared = Numbers.squaredWay(longitude, latitude, r.longitudes[k], r.latitudes[k]);
                    widest = squared > widest ? squared : widest;
                }
            }
            // a greater square never has a smaller root, so one root of the greatest will do
            double w = Numbers.rootOf(widest);
            return w + w + w + w + w;
        }
    }

    /** Ceilings, and the CAUSES found by them. */
    private static final class Judge {
        static final int PLACES = 4, HIGHEST = 100000;
        private static final int DAYS = 7, KINDS = 7;
        private static final long DAY = 86400L;

        final int[] causes = new int[KINDS];
        final long[] moments = new long[KINDS];
        int count;
        int told;
        private final int[] ceilings = new int[DAYS * PLACES];
        private final int[] firsts = new int[KINDS];
        private int gap;
        private int noise;

        Judge() {
            for (int i = 0; i < ceilings.length; i++) {
                ceilings[i] = NONE;
            }
        }

        static boolean isDay(int day) {
            return day >= 0 && day < DAYS;
        }

        void tell(int day, int place, int metres) {
            int i = day * PLACES + place;
            if (i >= 0 && i < ceilings.length) {
                told = ceilings[i] == NONE ? told + 1 : told;
                ceilings[i] = metres;
            }
        }

        int forget(int day) {
            int had = 0;
            for (int place = 0; isDay(day) && place < PLACES; place++) {
                if (ceilings[day * PLACES + place] != NONE) {
                    ceilings[day * PLACES + place] = NONE;
                    had++;
                }
            }
            told = told - had;
            return had;
        }

        void weigh(Recorder r, Table t, int gapNow, int noiseNow) {
            gap = gapNow;
            noise = noiseNow;
            for (int c = 0; c < KINDS; c++) {
                firsts[c] = NONE;
            }
            count = 0;
            Readings all = r.readings;
            if (all == null) {
                return;
            }
            for (int k = 0; k < all.count; k++) {
                weighPlain(all, k);
                weighHeight(r, all, t, k);
            }
            for (int c = 0; c < KINDS; c++) {
                if (firsts[c] != NONE) {
                    causes[count] = c + 1;
                    moments[count] = all.moments[firsts[c]];
                    count++;
                }
            }
        }

        private void weighPlain(Readings all, int k) {
            if (k + 1 < all.count) {
                long seconds = all.moments[k + 1] - all.moments[k];
                note(1, k, seconds > gap || seconds < 0L);
            }
            note(2, k, all.hasAll(k, Readings.NOISE) && all.noises[k] > noise);
            note(3, k, all.hasAll(k, Readings.MARK) && all.marks[k] < 0);
            note(7, k, all.hasAll(k, Readings.FIX) && !all.isKept[k]);
        }

        private void weighHeight(Recorder r, Readings all, Table t, int k) {
            boolean high = r.hasHeight(t, k);
            note(6, k, !high);
            if (high && all.isKept[k]) {
                int metres = ceilings[(int) (all.moments[k] / DAY % DAYS) * PLACES + placeOf(all.longitudes[k])];
                note(4, k, metres != NONE && r.heightOver(t, k) > (float) metres);
                note(5, k, metres == NONE);
            }
        }

        private static int placeOf(double longitude) {
            if (longitude < 0.0) {
                return longitude < -90.0 ? 0 : 1;
            }
            return longitude < 90.0 ? 2 : 3;
        }

        private void note(int number, int k, boolean isSo) {
            if (isSo && firsts[number - 1] == NONE) {
                firsts[number - 1] = k;
            }
        }
    }
}
