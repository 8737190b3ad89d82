import java.io.ByteArrayOutputStream;
import java.io.DataOutputStream;
import java.io.IOException;
import java.math.BigDecimal;
import java.nio.ByteBuffer;
import java.util.ArrayList;
import java.util.Arrays;
import java.util.List;
import java.util.TreeMap;

/** The document once more, written with the library and without any care for room, to hold the class against. */
final class Oracle {
    private static final class Refused extends RuntimeException {
        final int why;

        Refused(int why) {
            super(null, null, false, false);
            this.why = why;
        }
    }

    private static final class Spent extends RuntimeException {
        Spent() {
            super(null, null, false, false);
        }
    }

    private interface Asked {
        long go();
    }

    private static final class Flight {
        final List<long[][]> blocks = new ArrayList<>();
        long moment;
        double lon;
        double lat;
        float pressure;
    }

    private static final class Reading implements Cloneable {
        long moment;
        Double lon;
        Double lat;
        Float pressure;
        Integer noise;
        Integer mark;
        boolean kept;
        int block;
        int item;

        Reading copy() {
            try {
                return (Reading) clone();
            } catch (CloneNotSupportedException e) {
                throw new IllegalStateException(e);
            }
        }
    }

    private static final class Rec {
        int kind;
        Flight flight;
        int first;
        int second;
        List<Reading> readings;
        float ground = 0f;

        List<Reading> kept() {
            List<Reading> k = new ArrayList<>();
            for (Reading r : readings) {
                if (r.kept) {
                    k.add(r);
                }
            }
            return k;
        }
    }

    private static final class Turn {
        int kind;
        double lon;
        double lat;
        double endLon;
        double endLat;
        double radius;
        int quarter;

        double u(double x) {
            return (x - lon) * c(lat) * K;
        }

        double v(double y) {
            return (y - lat) * K;
        }
    }

    private static final double K = 111319.49079327358;
    private static final int[] MOST = {24, 48, 24, 24, 24};

    private final int[] settings = {60, 100, 500, 50, 0};
    private final List<float[]> table = new ArrayList<>();
    private final TreeMap<Integer, Integer> ceilings = new TreeMap<>();
    private final List<Flight> flights = new ArrayList<>();
    private final List<Rec> recs = new ArrayList<>();
    private byte[] out = {};
    private List<int[]> findings = new ArrayList<>();
    private List<Integer> corners = new ArrayList<>();
    private final List<Turn> turns = new ArrayList<>();
    private List<Long> reached = new ArrayList<>();
    private double taskWay = 0.0;
    private List<long[]> causes = new ArrayList<>();
    private long[] lacks = {-1, 0, 0};
    private int opened;
    private int closed;
    private int met;
    private int status;

    private long ask(Asked a, boolean zero) {
        try {
            long answer = a.go();
            status = 0;
            return answer;
        } catch (Refused r) {
            status = r.why;
            return zero ? 0 : r.why;
        }
    }

    private static void need(boolean holds, int why) {
        if (!holds) {
            throw new Refused(why);
        }
    }

    private Flight flight(int t) {
        need(t >= 0 && t < flights.size(), -2);
        return flights.get(t);
    }

    private Rec rec(int r) {
        need(r >= 0 && r < recs.size(), -2);
        return recs.get(r);
    }

    private Rec readRec(int r) {
        Rec x = rec(r);
        need(x.readings != null, -4);
        return x;
    }

    private Reading reading(Rec r, int k) {
        need(k >= 0 && k < r.readings.size(), -2);
        return r.readings.get(k);
    }

    private static boolean within(double x, double least, double most) {
        return x >= least && x <= most;
    }

    private static boolean fix(double lon, double lat) {
        return within(lon, -180, 180) && within(lat, -90, 90);
    }

    private static double d(long bits) {
        return Double.longBitsToDouble(bits);
    }

    private static float f(int bits) {
        return Float.intBitsToFloat(bits);
    }

    private static double c(double t) {
        double r = t * 0.017453292519943295;
        double s = r * r;
        return 1 - s * (0.5 - s * (0.041666666666666664 - s * 0.001388888888888889));
    }

    private static double way(double lonA, double latA, double lonB, double latB) {
        double m = (latA + latB) * 0.5;
        double u = (lonB - lonA) * c(m) * K;
        double v = (latB - latA) * K;
        return Math.sqrt(u * u + v * v);
    }

    private static double way(Reading a, Reading b) {
        return way(a.lon, a.lat, b.lon, b.lat);
    }

    // ---- settings

    int setting(int what, int v) {
        long got = ask(() -> {
            int[][] limits = {{1, 100000}, {1, 100000}, {Integer.MIN_VALUE, Integer.MAX_VALUE}, {0, 1000000}, {-1000000, 1000000}};
            need(what >= 0 && what <= 4, -3);
            need(v >= limits[what][0] && v <= limits[what][1], -3);
            long was = settings[what];
            settings[what] = v;
            return was;
        }, false);
        return status == -3 ? -2000000000 : (int) got;
    }

    int table(int pressure, int height) {
        return (int) ask(() -> {
            need(within(f(pressure), 0, 2000) && within(f(height), -1000, 40000), -3);
            if (!table.isEmpty()) {
                need(table.get(table.size() - 1)[0] - f(pressure) >= 1f, -3);
            }
            need(table.size() < 10, -5);
            table.add(new float[] {f(pressure), f(height)});
            return table.size();
        }, false);
    }

    int clearTable() {
        return (int) ask(() -> {
            int n = table.size();
            table.clear();
            return n;
        }, false);
    }

    int ceiling(int day, int place, int metres) {
        return (int) ask(() -> {
            need(within(day, 0, 6) && within(place, 0, 3) && within(metres, 0, 100000), -3);
            ceilings.put(day * 10 + place, metres);
            return 1;
        }, false);
    }

    int lack(int day) {
        return (int) ask(() -> {
            need(within(day, 0, 6), -3);
            int n = ceilings.size();
            ceilings.keySet().removeIf(k -> k / 10 == day);
            return n - ceilings.size();
        }, false);
    }

    // ---- traces

    int trace() {
        return (int) ask(() -> {
            need(flights.size() < 6, -5);
            flights.add(new Flight());
            return flights.size() - 1;
        }, false);
    }

    int block(int trace) {
        return (int) ask(() -> {
            Flight t = flight(trace);
            need(t.blocks.size() < 8, -5);
            t.blocks.add(new long[5][]);
            return t.blocks.size() - 1;
        }, false);
    }

    private long[][] rows(int trace, int block, int kind) {
        Flight t = flight(trace);
        need(block >= 0 && block < t.blocks.size() && kind >= 0 && kind < 5, -2);
        return t.blocks.get(block);
    }

    int row(int trace, int block, int kind, int n) {
        return (int) ask(() -> {
            long[][] rows = rows(trace, block, kind);
            need(n <= MOST[kind], -3);
            need(n >= -1, -14);
            rows[kind] = n < 0 ? null : new long[n];
            return 1;
        }, false);
    }

    private static long asKind(int kind, long bits) {
        switch (kind) {
            case 1:
                return Double.doubleToLongBits(d(bits));
            case 2:
                return Float.floatToIntBits(f((int) bits));
            case 3:
                return (int) bits;
            case 4:
                return (byte) bits;
            default:
                return bits;
        }
    }

    private long[] item(int trace, int block, int kind, int i) {
        long[] row = rows(trace, block, kind)[kind];
        need(row != null, -11);
        need(i >= 0 && i < row.length, -12);
        return row;
    }

    int set(int trace, int block, int kind, int i, long bits) {
        return (int) ask(() -> {
            item(trace, block, kind, i)[i] = asKind(kind, bits);
            return 1;
        }, false);
    }

    long get(int trace, int block, int kind, int i) {
        return ask(() -> item(trace, block, kind, i)[i], true);
    }

    int size(int trace, int block, int kind) {
        return (int) ask(() -> {
            long[] row = rows(trace, block, kind)[kind];
            return row == null ? -1 : row.length;
        }, false);
    }

    int here(int trace, long moment, long longitude, long latitude, int pressure) {
        return (int) ask(() -> {
            Flight t = flight(trace);
            need(moment >= 0 && moment <= 1000000000 && fix(d(longitude), d(latitude)) && within(f(pressure), 0, 2000), -3);
            t.moment = moment;
            t.lon = d(longitude);
            t.lat = d(latitude);
            t.pressure = f(pressure);
            return 1;
        }, false);
    }

    int fly(int trace, int n, int dt, long dLongitude, long dLatitude, int dPressure) {
        return (int) ask(() -> {
            Flight t = flight(trace);
            need(within(n, 1, 24) && within(dt, 0, 1000000) && within(d(dLongitude), -10, 10)
                    && within(d(dLatitude), -10, 10) && within(f(dPressure), -100, 100), -3);
            need(t.blocks.size() < 8, -5);
            long[][] rows = {new long[n], new long[2 * n], new long[n], new long[n], new long[n]};
            for (int i = 0; i < n; i++) {
                t.moment += dt;
                t.lon += d(dLongitude);
                t.lat += d(dLatitude);
                t.pressure += f(dPressure);
                rows[0][i] = t.moment;
                rows[1][2 * i] = Double.doubleToLongBits(t.lon);
                rows[1][2 * i + 1] = Double.doubleToLongBits(t.lat);
                rows[2][i] = Float.floatToIntBits(t.pressure);
                rows[4][i] = 1;
            }
            t.blocks.add(rows);
            return t.blocks.size() - 1;
        }, false);
    }

    private static byte[] written(Flight t) {
        try {
            ByteArrayOutputStream bytes = new ByteArrayOutputStream();
            DataOutputStream data = new DataOutputStream(bytes);
            data.write(70);
            data.write(t.blocks.size());
            for (long[][] rows : t.blocks) {
                for (int kind = 0; kind < 5; kind++) {
                    if (rows[kind] == null) {
                        data.write(255);
                        continue;
                    }
                    data.write(rows[kind].length);
                    for (long bits : rows[kind]) {
                        if (kind < 2) {
                            data.writeLong(bits);
                        } else if (kind < 4) {
                            data.writeInt((int) bits);
                        } else {
                            data.writeByte((int) bits);
                        }
                    }
                }
            }
            int sum = 0;
            for (byte b : bytes.toByteArray()) {
                sum ^= b & 255;
            }
            data.write(sum);
            return bytes.toByteArray();
        } catch (IOException e) {
            throw new IllegalStateException(e);
        }
    }

    int export(int trace) {
        return (int) ask(() -> {
            out = written(flight(trace));
            return out.length;
        }, false);
    }

    int out(int i) {
        return i >= 0 && i < out.length ? out[i] & 255 : -1;
    }

    int alter(int i, int mask) {
        return (int) ask(() -> {
            need(i >= 0 && i < out.length, -2);
            need(mask >= 0 && mask <= 255, -3);
            out[i] ^= (byte) mask;
            return out[i] & 255;
        }, false);
    }

    int cut(int n) {
        return (int) ask(() -> {
            need(n >= 0 && n <= out.length, -3);
            int went = out.length - n;
            out = Arrays.copyOf(out, n);
            return went;
        }, false);
    }

    private static final class Bad extends RuntimeException {
        final int place;

        Bad(int place) {
            super(null, null, false, false);
            this.place = place;
        }
    }

    private static int next(ByteBuffer b) {
        if (!b.hasRemaining()) {
            throw new Bad(b.limit());
        }
        return b.get() & 255;
    }

    private static void stand(boolean can, ByteBuffer b) {
        if (!can) {
            throw new Bad(b.position() - 1);
        }
    }

    private Flight parsed() {
        ByteBuffer b = ByteBuffer.wrap(out);
        Flight t = new Flight();
        stand(next(b) == 70, b);
        int n = next(b);
        stand(n <= 8, b);
        for (int i = 0; i < n; i++) {
            long[][] rows = new long[5][];
            for (int kind = 0; kind < 5; kind++) {
                int items = next(b);
                if (items == 255) {
                    continue;
                }
                stand(items <= MOST[kind], b);
                rows[kind] = new long[items];
                for (int j = 0; j < items; j++) {
                    long bits = 0;
                    for (int k = 0; k < (kind < 2 ? 8 : kind < 4 ? 4 : 1); k++) {
                        bits = bits * 256 + next(b);
                    }
                    rows[kind][j] = asKind(kind, bits);
                }
            }
            t.blocks.add(rows);
        }
        int sum = 0;
        for (int i = 0; i < b.position(); i++) {
            sum ^= out[i] & 255;
        }
        stand(next(b) == sum, b);
        if (b.hasRemaining()) {
            throw new Bad(b.position());
        }
        return t;
    }

    int back() {
        return (int) ask(() -> {
            need(flights.size() < 6, -5);
            try {
                flights.add(parsed());
                return flights.size() - 1;
            } catch (Bad bad) {
                return -100 - bad.place;
            }
        }, false);
    }

    long digest(int trace) {
        return ask(() -> {
            long h = 1469598103934665603L;
            for (byte b : written(flight(trace))) {
                h = (h ^ (b & 255)) * 1099511628211L;
            }
            return h;
        }, true);
    }

    // ---- recorders

    int recorder(int kind, int trace) {
        return (int) ask(() -> {
            need(kind >= 0 && kind <= 2, -3);
            Rec r = new Rec();
            r.kind = kind;
            r.flight = flight(trace);
            need(recs.size() < 8, -5);
            recs.add(r);
            return recs.size() - 1;
        }, false);
    }

    int doubled(int first, int second) {
        return (int) ask(() -> {
            Rec a = rec(first);
            Rec b = rec(second);
            need(a.kind != 3 && b.kind != 3 && a != b, -3);
            need(recs.size() < 8, -5);
            Rec r = new Rec();
            r.kind = 3;
            r.first = first;
            r.second = second;
            recs.add(r);
            return recs.size() - 1;
        }, false);
    }

    private void find(List<int[]> found, int what, int block, int item) {
        found.add(new int[] {what, block, item});
        if (what <= 3) {
            met++;
            if (met == 4000) {
                throw new Spent();
            }
        }
    }

    private boolean wants(List<int[]> found, boolean[] gone, long[][] rows, int kind, int need, int block, int item) {
        if (gone[kind]) {
            return false;
        }
        if (rows[kind] == null || rows[kind].length <= need) {
            gone[kind] = true;
            find(found, rows[kind] == null ? 1 : 2, block, item);
            return false;
        }
        return true;
    }

    private Reading settle(Reading r, Reading last, List<int[]> found) {
        if (r.lon == null) {
            return last;
        }
        if (last != null) {
            long s = r.moment - last.moment;
            if (s < 1 || way(last, r) > settings[1] * (double) s) {
                find(found, 6, r.block, r.item);
                return last;
            }
        }
        r.kept = true;
        return r;
    }

    private List<Reading> readFlight(Rec rec, List<int[]> found) {
        List<Reading> all = new ArrayList<>();
        Reading last = null;
        for (int b = 0; b < rec.flight.blocks.size(); b++) {
            long[][] rows = rec.flight.blocks.get(b);
            opened++;
            try {
                if (rows[0] == null) {
                    find(found, 1, b, -1);
                    continue;
                }
                boolean[] gone = new boolean[5];
                for (int i = 0; i < rows[0].length; i++) {
                    Reading r = new Reading();
                    r.block = b;
                    r.item = i;
                    long shift = settings[4];
                    if (rec.kind == 2) {
                        if (!wants(found, gone, rows, 4, i, b, i)) {
                            break;
                        }
                        r.mark = (int) rows[4][i];
                        if (r.mark == 0) {
                            find(found, 3, b, i);
                            break;
                        }
                        shift /= r.mark;
                    }
                    r.moment = rows[0][i] + shift;
                    if (r.moment < 0 || r.moment > 999999999999L) {
                        find(found, 4, b, i);
                        continue;
                    }
                    if (wants(found, gone, rows, 1, 2 * i + 1, b, i)) {
                        if (fix(d(rows[1][2 * i]), d(rows[1][2 * i + 1]))) {
                            r.lon = d(rows[1][2 * i]);
                            r.lat = d(rows[1][2 * i + 1]);
                        } else {
                            find(found, 5, b, i);
                        }
                    }
                    last = settle(r, last, found);
                    if (wants(found, gone, rows, 2, i, b, i)) {
                        r.pressure = f((int) rows[2][i]);
                    }
                    if (rec.kind == 1 && wants(found, gone, rows, 3, i, b, i)) {
                        r.noise = (int) rows[3][i];
                    }
                    all.add(r);
                }
            } finally {
                closed++;
            }
        }
        return all;
    }

    private List<Reading> readDoubled(Rec rec, List<int[]> found) {
        List<Reading> all = new ArrayList<>();
        Reading last = null;
        for (Reading one : recs.get(rec.first).readings) {
            Reading r = one.copy();
            r.kept = false;
            for (Reading other : recs.get(rec.second).readings) {
                if (other.moment == r.moment) {
                    if (r.lon == null) {
                        r.lon = other.lon;
                        r.lat = other.lat;
                    }
                    r.pressure = r.pressure == null ? other.pressure : r.pressure;
                    r.noise = r.noise == null ? other.noise : r.noise;
                    r.mark = r.mark == null ? other.mark : r.mark;
                    break;
                }
            }
            last = settle(r, last, found);
            all.add(r);
        }
        return all;
    }

    int read(int recorder) {
        return (int) ask(() -> {
            Rec r = rec(recorder);
            need(r.kind != 3 || recs.get(r.first).readings != null && recs.get(r.second).readings != null, -4);
            need(met < 4000, -5);
            List<int[]> found = new ArrayList<>();
            try {
                r.readings = r.kind == 3 ? readDoubled(r, found) : readFlight(r, found);
            } catch (Spent s) {
                throw new Refused(-15);
            }
            findings = found;
            return r.readings.size();
        }, false);
    }

    long reading(int recorder, int k, int what) {
        return ask(() -> {
            Reading r = reading(readRec(recorder), k);
            need(what >= 0 && what <= 9, -2);
            int has = (r.lon == null ? 0 : 1) + (r.pressure == null ? 0 : 2) + (r.noise == null ? 0 : 4) + (r.mark == null ? 0 : 8);
            switch (what) {
                case 0:
                    return r.moment;
                case 1:
                    return r.lon == null ? 0 : Double.doubleToLongBits(r.lon);
                case 2:
                    return r.lat == null ? 0 : Double.doubleToLongBits(r.lat);
                case 3:
                    return r.pressure == null ? 0 : Float.floatToIntBits(r.pressure);
                case 4:
                    return r.noise == null ? 0 : r.noise;
                case 5:
                    return r.mark == null ? 0 : r.mark;
                case 6:
                    return r.kept ? 1 : 0;
                case 7:
                    return r.block;
                case 8:
                    return r.item;
                default:
                    return has;
            }
        }, true);
    }

    int finding(int k, int what) {
        boolean is = k >= 0 && k < Math.min(64, findings.size()) && what >= 0 && what <= 2;
        return is ? findings.get(k)[what] : -2;
    }

    private float tableHeight(Reading r) {
        if (table.size() < 2 || r.pressure == null || !Float.isFinite(r.pressure)) {
            return Float.NaN;
        }
        float p = r.pressure;
        if (p > table.get(0)[0] || p < table.get(table.size() - 1)[0]) {
            return Float.NaN;
        }
        for (int i = 1; i < table.size(); i++) {
            float[] e = table.get(i - 1);
            float[] g = table.get(i);
            if (g[0] <= p) {
                return e[1] + (e[0] - p) * ((g[1] - e[1]) / (e[0] - g[0]));
            }
        }
        throw new IllegalStateException("no POINT");
    }

    private float height(Rec rec, Reading r) {
        return tableHeight(r) - rec.ground;
    }

    int ground(int recorder, long moment) {
        return (int) ask(() -> {
            Rec rec = readRec(recorder);
            for (Reading r : rec.readings) {
                if (r.moment == moment && !Float.isNaN(tableHeight(r))) {
                    rec.ground = tableHeight(r);
                    return 1;
                }
            }
            return -1;
        }, false);
    }

    int height(int recorder, int k) {
        return (int) ask(() -> {
            Rec rec = readRec(recorder);
            return Float.floatToIntBits(height(rec, reading(rec, k)));
        }, true);
    }

    long way(int recorder, int i, int j) {
        return ask(() -> {
            Rec rec = readRec(recorder);
            Reading a = reading(rec, i);
            Reading b = reading(rec, j);
            return Double.doubleToLongBits(a.lon == null || b.lon == null ? Double.NaN : way(a, b));
        }, true);
    }

    private float glide(Rec rec, Reading a, Reading b) {
        float h = height(rec, a) - height(rec, b);
        if (a.lon == null || b.lon == null || Float.isNaN(h)) {
            return Float.NaN;
        }
        double w = way(a, b);
        if (h == 0) {
            return w == 0 ? Float.NaN : Float.POSITIVE_INFINITY;
        }
        return (float) w / h;
    }

    int glide(int recorder, int i, int j) {
        return (int) ask(() -> {
            Rec rec = readRec(recorder);
            return Float.floatToIntBits(glide(rec, reading(rec, i), reading(rec, j)));
        }, true);
    }

    int compare(int recorder, int i, int j, int k, int l) {
        return (int) ask(() -> {
            Rec rec = readRec(recorder);
            float a = glide(rec, reading(rec, i), reading(rec, j));
            float b = glide(rec, reading(rec, k), reading(rec, l));
            return a < b ? -1 : a > b ? 1 : a == b ? 0 : 2;
        }, false);
    }

    int bestGlide(int recorder) {
        return (int) ask(() -> {
            Rec rec = readRec(recorder);
            List<Reading> kept = rec.kept();
            float best = Float.NaN;
            int at = -1;
            for (int i = 0; i + 1 < kept.size(); i++) {
                float g = glide(rec, kept.get(i), kept.get(i + 1));
                if (!Float.isNaN(g) && !(g <= best)) {
                    best = g;
                    at = rec.readings.indexOf(kept.get(i));
                }
            }
            return at;
        }, false);
    }

    long flown(int recorder) {
        return ask(() -> {
            List<Reading> kept = readRec(recorder).kept();
            double sum = 0;
            for (int i = 0; i + 1 < kept.size(); i++) {
                sum += way(kept.get(i), kept.get(i + 1));
            }
            return Double.doubleToLongBits(sum);
        }, true);
    }

    /** G(k, j) by the words of the document, with every i looked at for every k anew. */
    private double greatest(Rec rec, List<Integer> turned) {
        List<Reading> kept = rec.kept();
        List<Reading> chosen = new ArrayList<>();
        int m = kept.size() <= 60 ? 1 : (int) Math.ceil(kept.size() / 60.0);
        for (int i = 0; i < kept.size(); i += m) {
            chosen.add(kept.get(i));
        }
        int n = chosen.size();
        if (n < 2) {
            return 0;
        }
        double[][] g = new double[5][n];
        int[][] by = new int[5][n];
        for (int j = 1; j < n; j++) {
            g[0][j] = way(chosen.get(0), chosen.get(j));
        }
        for (int k = 1; k < 5; k++) {
            for (int j = 0; j < n; j++) {
                g[k][j] = Double.NaN;
                for (int i = 1; i < j; i++) {
                    double sum = g[k - 1][i] + way(chosen.get(i), chosen.get(j));
                    if (!Double.isNaN(sum) && !(sum <= g[k][j])) {
                        g[k][j] = sum;
                        by[k][j] = i;
                    }
                }
            }
        }
        int best = 0;
        for (int k = 1; k < 5; k++) {
            if (g[k][n - 1] > g[best][n - 1]) {
                best = k;
            }
        }
        int j = n - 1;
        for (int k = best; k > 0; k--) {
            j = by[k][j];
            turned.add(0, rec.readings.indexOf(chosen.get(j)));
        }
        return g[best][n - 1];
    }

    long best(int recorder) {
        return ask(() -> {
            Rec rec = readRec(recorder);
            corners = new ArrayList<>();
            return Double.doubleToLongBits(greatest(rec, corners));
        }, true);
    }

    int corner(int k) {
        return k >= 0 && k < corners.size() ? corners.get(k) : -1;
    }

    long bound(int recorder) {
        return ask(() -> {
            Rec rec = readRec(recorder);
            List<Reading> kept = rec.kept();
            if (kept.size() <= 60) {
                return Double.doubleToLongBits(greatest(rec, new ArrayList<>()));
            }
            double w = 0;
            for (Reading a : kept) {
                for (Reading b : kept) {
                    w = Math.max(w, way(a, b));
                }
            }
            return Double.doubleToLongBits(w + w + w + w + w);
        }, true);
    }

    // ---- tasks, judging

    int point(int kind, long longitude, long latitude, long a, long b) {
        return (int) ask(() -> {
            need(kind >= 0 && kind <= 2 && fix(d(longitude), d(latitude)), -3);
            Turn t = new Turn();
            t.kind = kind;
            t.lon = d(longitude);
            t.lat = d(latitude);
            if (kind == 0) {
                need(fix(d(a), d(b)), -3);
                t.endLon = d(a);
                t.endLat = d(b);
                double u = t.u(t.endLon);
                double v = t.v(t.endLat);
                need(u * u + v * v != 0, -3);
            } else {
                need(a >= 1 && a <= 1000000, -3);
                need(kind == 1 || b >= 0 && b <= 3, -3);
                t.radius = a;
                t.quarter = (int) b;
            }
            need(turns.size() < 6, -5);
            turns.add(t);
            return turns.size();
        }, false);
    }

    int clearTask() {
        return (int) ask(() -> {
            int n = turns.size();
            turns.clear();
            return n;
        }, false);
    }

    private static boolean liesIn(Turn t, Reading r) {
        double u = t.u(r.lon);
        double v = t.v(r.lat);
        if (t.kind == 0) {
            double bigU = t.u(t.endLon);
            double bigV = t.v(t.endLat);
            return bigU * v - bigV * u == 0 && within(u * bigU + v * bigV, 0, bigU * bigU + bigV * bigV);
        }
        if (u * u + v * v > t.radius * t.radius) {
            return false;
        }
        if (t.kind == 1) {
            return true;
        }
        switch (t.quarter) {
            case 0:
                return u >= 0 && v >= 0;
            case 1:
                return u <= 0 && v >= 0;
            case 2:
                return u <= 0 && v <= 0;
            default:
                return u >= 0 && v <= 0;
        }
    }

    /** t of the crossing, or NaN. */
    private static double crosses(Turn p, Reading a, Reading b) {
        double u = p.u(a.lon);
        double v = p.v(a.lat);
        double du = p.u(b.lon) - u;
        double dv = p.v(b.lat) - v;
        double t;
        if (p.kind == 0) {
            double bigU = p.u(p.endLon);
            double bigV = p.v(p.endLat);
            double s = bigU * v - bigV * u;
            double e = bigU * p.v(b.lat) - bigV * p.u(b.lon);
            if (s == 0 && e == 0 || s < 0 && e < 0 || s > 0 && e > 0) {
                return Double.NaN;
            }
            t = s / (s - e);
            double x = u + t * du;
            double y = v + t * dv;
            return within(x * bigU + y * bigV, 0, bigU * bigU + bigV * bigV) ? t : Double.NaN;
        }
        double low = 0;
        double high = 1;
        if (p.kind == 2) {
            boolean[] turned = {p.quarter == 1 || p.quarter == 2, p.quarter == 2 || p.quarter == 3};
            double[][] axes = {{u, du}, {v, dv}};
            for (int i = 0; i < 2; i++) {
                double x = turned[i] ? -axes[i][0] : axes[i][0];
                double dx = turned[i] ? -axes[i][1] : axes[i][1];
                if (dx == 0 && x < 0) {
                    return Double.NaN;
                }
                if (dx > 0) {
                    low = Math.max(low, -x / dx);
                }
                if (dx < 0) {
                    high = Math.min(high, -x / dx);
                }
            }
        }
        double dd = du * du + dv * dv;
        if (low > high || dd == 0) {
            return Double.NaN;
        }
        t = -(u * du + v * dv) / dd;
        t = t < low ? low : t > high ? high : t;
        double x = u + t * du;
        double y = v + t * dv;
        return x * x + y * y <= p.radius * p.radius ? t : Double.NaN;
    }

    int task(int recorder) {
        return (int) ask(() -> {
            List<Reading> kept = readRec(recorder).kept();
            reached = new ArrayList<>();
            // steps: 2 i asks fix i alone, 2 i + 1 asks it and the next one
            int step = 0;
            for (Turn p : turns) {
                boolean found = false;
                for (; step < 2 * kept.size() && !found; step++) {
                    Reading a = kept.get(step / 2);
                    if (step % 2 == 0) {
                        found = liesIn(p, a);
                        if (found) {
                            reached.add(a.moment);
                        }
                    } else if (step / 2 + 1 < kept.size()) {
                        Reading b = kept.get(step / 2 + 1);
                        long s = b.moment - a.moment;
                        double t = s <= settings[0] ? crosses(p, a, b) : Double.NaN;
                        found = !Double.isNaN(t);
                        if (found) {
                            reached.add(a.moment + (long) Math.floor(t * s + 0.5));
                        }
                    }
                }
                if (!found) {
                    break;
                }
            }
            taskWay = 0;
            for (int i = 1; i < reached.size(); i++) {
                Turn a = turns.get(i - 1);
                Turn b = turns.get(i);
                taskWay += way(a.lon, a.lat, b.lon, b.lat);
            }
            return reached.size();
        }, false);
    }

    long reached(int k) {
        return k >= 0 && k < reached.size() ? reached.get(k) : -1;
    }

    long taskWay() {
        return Double.doubleToLongBits(taskWay);
    }

    private boolean isCause(int c, Rec rec, int k) {
        Reading r = rec.readings.get(k);
        float h = height(rec, r);
        switch (c) {
            case 1:
                if (k + 1 >= rec.readings.size()) {
                    return false;
                }
                long next = rec.readings.get(k + 1).moment;
                return next > r.moment + settings[0] || next < r.moment;
            case 2:
                return r.noise != null && r.noise > settings[2];
            case 3:
                return r.mark != null && r.mark < 0;
            case 4:
            case 5:
                if (!r.kept || Float.isNaN(h)) {
                    return false;
                }
                int day = (int) (r.moment / 86400 % 7);
                BigDecimal east = new BigDecimal(r.lon).add(BigDecimal.valueOf(180));
                int place = Math.min(3, east.divideToIntegralValue(BigDecimal.valueOf(90)).intValue());
                Integer metres = ceilings.get(day * 10 + place);
                return c == 5 ? metres == null : metres != null && h > metres;
            case 6:
                return Float.isNaN(h);
            default:
                return r.lon != null && !r.kept;
        }
    }

    int judge(int recorder) {
        return (int) ask(() -> {
            Rec rec = readRec(recorder);
            causes = new ArrayList<>();
            for (int c = 1; c <= 7; c++) {
                for (int k = 0; k < rec.readings.size(); k++) {
                    if (isCause(c, rec, k)) {
                        causes.add(new long[] {c, rec.readings.get(k).moment});
                        break;
                    }
                }
            }
            return causes.size();
        }, false);
    }

    long cause(int k, int what) {
        return k >= 0 && k < causes.size() && (what == 0 || what == 1) ? causes.get(k)[what] : -2;
    }

    int engine(int recorder) {
        return (int) ask(() -> {
            need(rec(recorder).kind == 1, -13);
            return readRec(recorder).readings.stream().filter(r -> r.noise != null).mapToInt(r -> r.noise).max().orElse(-1);
        }, false);
    }

    int marks(int recorder, int v) {
        return (int) ask(() -> {
            need(rec(recorder).kind == 2, -13);
            return readRec(recorder).readings.stream().filter(r -> r.mark != null && r.mark == v).count();
        }, false);
    }

    int part(int recorder, int which) {
        return (int) ask(() -> {
            Rec r = rec(recorder);
            need(which == 0 || which == 1, -3);
            need(r.kind == 3, -13);
            return which == 0 ? r.first : r.second;
        }, false);
    }

    private static Reading firstOf(List<Reading> kept, long moment) {
        for (Reading r : kept) {
            if (r.moment == moment) {
                return r;
            }
        }
        return null;
    }

    int differ(int recorder, int other) {
        return (int) ask(() -> {
            Rec a = rec(recorder);
            Rec b = rec(other);
            need(a.readings != null && b.readings != null, -4);
            long[] found = {-1, 0, 0};
            int n = 0;
            for (Reading r : a.kept()) {
                Reading s = firstOf(b.kept(), r.moment);
                if (s == null) {
                    found[1]++;
                } else if (way(r, s) > settings[3]) {
                    found[0] = n == 0 ? r.moment : found[0];
                    n++;
                }
            }
            for (Reading s : b.kept()) {
                found[2] += firstOf(a.kept(), s.moment) == null ? 1 : 0;
            }
            lacks = found;
            return n;
        }, false);
    }

    long lacks(int what) {
        return what >= 0 && what <= 2 ? lacks[what] : -2;
    }

    int count(int what) {
        int[] counts = {flights.size(), recs.size(), turns.size(), table.size(), findings.size(), opened, closed, met, out.length, ceilings.size()};
        return what >= 0 && what < counts.length ? counts[what] : -3;
    }

    int status() {
        return status;
    }
}
