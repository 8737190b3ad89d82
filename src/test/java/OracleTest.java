import java.lang.reflect.Method;
import java.lang.reflect.Modifier;
import java.util.ArrayList;
import java.util.HashMap;
import java.util.List;
import java.util.Map;
import java.util.Random;

/** Random runs of calls, all promises mixed: the class must answer what the Oracle answers, from fixed seeds. */
public final class OracleTest {
    private static final int RUNS = 3000;
    private static final int CALLS = 512;
    private static final double[] ODD = {0.0, -0.0, 180, -180, 90, -90, 180.00000000000003, 90.00000000000001, -90.00000000000001,
        Double.NaN, Double.POSITIVE_INFINITY, Double.NEGATIVE_INFINITY, Double.MIN_VALUE, -Double.MIN_VALUE, 1e-310, 1e-160,
        1e300, -1e300, Double.MAX_VALUE, 10, -10, 10.000000000000002};
    private static final float[] ODD_FLOATS = {0f, -0f, 2000f, 2000.0001f, Float.NaN, Float.POSITIVE_INFINITY,
        Float.NEGATIVE_INFINITY, Float.MIN_VALUE, -Float.MIN_VALUE, 1e-40f, 100f, -100f, 100.00001f, 1e30f, Float.MAX_VALUE, -1f};

    private final Random random;
    private final GliderHouse house = new GliderHouse();
    private final Oracle oracle = new Oracle();
    private final List<String> told = new ArrayList<>();
    private final Map<String, Method> houseCalls;
    private final Map<String, Method> oracleCalls;
    private final double stride;
    private final double oddness;
    private final String[] names;

    // most runs keep to some of the calls, so that these meet states which all calls mixed hardly ever reach
    private static final String[][] FOCUS = {
        {},
        {"point", "point", "point", "task", "task", "task", "reached", "taskWay", "setting", "clearTask", "read"},
        {"row", "set", "set", "read", "read", "read", "reading", "finding", "doubled", "differ", "lacks", "judge", "cause", "engine", "marks"},
        {"read", "read", "read", "read", "read", "row", "count", "finding", "reading"},
        {"export", "alter", "cut", "back", "digest", "out", "get", "set", "row", "size", "count"},
        {"table", "clearTable", "height", "glide", "compare", "bestGlide", "ground", "judge", "cause", "ceiling", "lack", "read"},
        {"best", "corner", "bound", "flown", "way", "read", "fly", "setting", "set"}};

    private OracleTest(long seed, Map<String, Method> houseCalls, Map<String, Method> oracleCalls) {
        random = new Random(seed);
        this.houseCalls = houseCalls;
        this.oracleCalls = oracleCalls;
        stride = Math.pow(10, -random.nextInt(5) - 0.5 * random.nextInt(2));
        oddness = random.nextInt(3) * 0.04;
        String[] some = FOCUS[(int) (seed % FOCUS.length)];
        names = some.length > 0 ? some : houseCalls.keySet().stream().sorted().toArray(String[]::new);
    }

    public static void main(String[] args) throws Exception {
        Map<String, Method> houseCalls = new HashMap<>();
        Map<String, Method> oracleCalls = new HashMap<>();
        for (Method m : GliderHouse.class.getDeclaredMethods()) {
            if (Modifier.isPublic(m.getModifiers())) {
                houseCalls.put(m.getName(), m);
                Method other = Oracle.class.getDeclaredMethod(m.getName(), m.getParameterTypes());
                oracleCalls.put(m.getName(), other);
            }
        }
        int runs = args.length > 0 ? Integer.parseInt(args[0]) : RUNS;
        long first = args.length > 1 ? Long.parseLong(args[1]) : 1;
        for (long seed = first; seed < first + runs && !Check.failed(); seed++) {
            OracleTest run = new OracleTest(seed, houseCalls, oracleCalls);
            run.go();
            if (Check.failed()) {
                System.out.println("seed " + seed + ", the run:");
                run.told.forEach(System.out::println);
            }
        }
        Check.end("OracleTest");
    }

    private void go() throws Exception {
        prepare();
        while (told.size() < CALLS && !Check.failed()) {
            String name = names[random.nextInt(names.length)];
            if ((name.startsWith("clear") || name.equals("lack")) && random.nextInt(6) > 0) {
                continue;
            }
            call(name, arguments(name));
            follow(name);
        }
    }

    private long call(String name, Object... args) throws Exception {
        if (told.size() >= CALLS) {
            return 0;
        }
        long want = ((Number) oracleCalls.get(name).invoke(oracle, args)).longValue();
        long got = ((Number) houseCalls.get(name).invoke(house, args)).longValue();
        StringBuilder text = new StringBuilder(name).append('(');
        for (int i = 0; i < args.length; i++) {
            text.append(i == 0 ? "" : ", ").append(args[i]);
        }
        told.add(text + ") -> " + want);
        Check.due("call " + told.size() + ", " + text + ")", got, want);
        Check.due("status() behind it", house.status(), oracle.status());
        return want;
    }

    private void prepare() throws Exception {
        call("setting", 1, random.nextBoolean() ? 100000 : 1 + random.nextInt(300));
        int points = random.nextInt(6);
        float pressure = 1100 - random.nextInt(100);
        for (int i = 0; i < points; i++) {
            call("table", Float.floatToIntBits(pressure), Float.floatToIntBits(random.nextInt(3) == 0 ? 0f : i * 500 + random.nextInt(900) - 300));
            pressure -= 1 + random.nextInt(400);
        }
        int traces = 1 + random.nextInt(3);
        for (int t = 0; t < traces; t++) {
            call("trace");
            call("here", t, (long) random.nextInt(2000), bits(random.nextInt(360) - 180), bits(random.nextInt(170) - 85), Float.floatToIntBits(1000 - random.nextInt(60)));
            if (random.nextInt(3) == 0) {
                call("here", t, 86400L * random.nextInt(9), bits(0), bits(0), Float.floatToIntBits(900));
            }
            int blocks = random.nextInt(9);
            for (int b = 0; b < blocks; b++) {
                call("fly", t, 1 + random.nextInt(24), random.nextInt(70), small(), small(), Float.floatToIntBits(random.nextInt(21) - 10));
            }
        }
        int recorders = 1 + random.nextInt(5);
        for (int r = 0; r < recorders; r++) {
            call("recorder", random.nextInt(3), random.nextInt(traces));
            call("read", r);
        }
        if (random.nextBoolean()) {
            call("doubled", 0, recorders - 1);
        }
    }

    private void follow(String name) throws Exception {
        if (name.equals("read")) {
            call("count", 4);
            int k = random.nextInt(6);
            for (int what = 0; what < 3; what++) {
                call("finding", k, what);
            }
            call("count", 5 + random.nextInt(3));
        } else if (name.equals("best")) {
            call("corner", random.nextInt(4));
        } else if (name.equals("task")) {
            call("reached", random.nextInt(4));
            call("taskWay");
        } else if (name.equals("judge")) {
            int k = random.nextInt(5);
            call("cause", k, 0);
            call("cause", k, 1);
        } else if (name.equals("differ")) {
            call("lacks", random.nextInt(3));
        } else if (name.equals("set") || name.equals("row")) {
            call("read", random.nextInt(6));
        }
    }

    private static long bits(double x) {
        return Double.doubleToLongBits(x);
    }

    private boolean odd() {
        return random.nextDouble() < oddness;
    }

    private int any(int below) {
        return odd() ? below : odd() ? -1 : odd() ? random.nextInt() : random.nextInt(below);
    }

    private long small() {
        if (odd()) {
            return bits(ODD[random.nextInt(ODD.length)]);
        }
        return bits(random.nextInt(4) == 0 ? 0 : (random.nextInt(21) - 10) * stride);
    }

    private long degrees(int most) {
        if (odd()) {
            return random.nextInt(3) == 0 ? random.nextLong() : bits(ODD[random.nextInt(ODD.length)]);
        }
        int n = house.count(1) == 0 ? 0 : random.nextInt(house.count(1));
        long near = house.reading(n, random.nextInt(60), most == 180 ? 1 : 2);
        oracle.reading(n, -1, 0);
        house.reading(n, -1, 0);
        double x = Double.longBitsToDouble(near);
        if (random.nextInt(3) == 0) {
            x = random.nextInt(most + 1) - most / 2;
        } else if (random.nextBoolean()) {
            x += (random.nextInt(21) - 10) * stride;
        }
        return bits(x);
    }

    private int aFloat(float least, float most) {
        if (odd()) {
            return random.nextInt(3) == 0 ? random.nextInt() : Float.floatToIntBits(ODD_FLOATS[random.nextInt(ODD_FLOATS.length)]);
        }
        return Float.floatToIntBits(least + (most - least) * random.nextInt(101) / 100f);
    }

    private long itemBits(int kind) {
        if (random.nextInt(4) == 0) {
            return random.nextLong();
        }
        switch (kind) {
            case 0:
                return random.nextInt(6) == 0 ? 999999999999L + random.nextInt(3) : random.nextInt(5000);
            case 1:
                return random.nextInt(3) == 0 ? bits(ODD[random.nextInt(ODD.length)]) : degrees(90);
            case 2:
                return random.nextInt(3) == 0 ? Float.floatToIntBits(ODD_FLOATS[random.nextInt(ODD_FLOATS.length)]) : aFloat(700, 1100);
            case 3:
                return random.nextInt(1000);
            default:
                return random.nextInt(7) - 3;
        }
    }

    private long moment() {
        int n = house.count(1) == 0 ? 0 : random.nextInt(house.count(1));
        long m = house.reading(n, random.nextInt(100), 0);
        oracle.reading(n, -1, 0);
        house.reading(n, -1, 0);
        return m;
    }

    private Object[] arguments(String name) {
        int recorder = any(6);
        int trace = any(4);
        switch (name) {
            case "setting":
                int what = any(5);
                int[] values = {random.nextInt(120), 1 + random.nextInt(200), random.nextInt(900), random.nextInt(4) == 0 ? 0 : random.nextInt(2000), random.nextInt(400) - 200};
                return new Object[] {what, odd() || what < 0 || what > 4 ? random.nextInt() : random.nextInt(3) == 0 && what == 1 ? 100000 : values[what]};
            case "table":
                return new Object[] {aFloat(600, 1100), aFloat(-1000, 4000)};
            case "ceiling":
                return new Object[] {any(7), any(4), odd() ? -1 : odd() ? 100001 : random.nextInt(2000)};
            case "lack":
                return new Object[] {any(7)};
            case "block":
            case "export":
            case "digest":
                return new Object[] {trace};
            case "row":
                int rowKind = any(5);
                return new Object[] {trace, any(5), rowKind, odd() ? -2 - random.nextInt(3) : odd() ? 25 + random.nextInt(30) : random.nextInt(5) == 0 ? -1 : random.nextInt(rowKind == 1 ? 49 : 25)};
            case "set":
                int kind = any(5);
                return new Object[] {trace, any(6), kind, any(kind == 1 ? 30 : 16), itemBits(kind)};
            case "get":
                return new Object[] {trace, any(6), any(5), any(16)};
            case "size":
                return new Object[] {trace, any(6), any(5)};
            case "here":
                return new Object[] {trace, odd() ? 1000000001L : odd() ? -1L : (long) random.nextInt(3000), degrees(180), degrees(90), aFloat(0, 2000)};
            case "fly":
                return new Object[] {trace, odd() ? random.nextInt(40) - 5 : 1 + random.nextInt(24), odd() ? random.nextInt() : random.nextInt(90), small(), small(), aFloat(-20, 20)};
            case "out":
                return new Object[] {any(400)};
            case "alter":
                return new Object[] {random.nextInt(4) == 0 ? random.nextInt(8) : any(Math.max(1, house.count(8))), odd() ? 256 : any(256)};
            case "cut":
                return new Object[] {Math.max(0, house.count(8) - random.nextInt(3)) + (odd() ? random.nextInt(5) : 0) - (odd() ? random.nextInt(300) : 0)};
            case "recorder":
                return new Object[] {any(3), trace};
            case "reading":
                return new Object[] {recorder, any(40), any(10)};
            case "finding":
                return new Object[] {any(70), any(3)};
            case "ground":
                return new Object[] {recorder, moment()};
            case "height":
                return new Object[] {recorder, any(40)};
            case "way":
            case "glide":
                return new Object[] {recorder, any(30), any(30)};
            case "compare":
                return new Object[] {recorder, any(10), any(10), any(10), any(10)};
            case "point":
                return point();
            case "reached":
                return new Object[] {any(7)};
            case "corner":
                return new Object[] {any(5)};
            case "cause":
                return new Object[] {any(7), any(2)};
            case "marks":
                return new Object[] {recorder, random.nextInt(5) - 2};
            case "part":
                return new Object[] {recorder, any(2)};
            case "doubled":
            case "differ":
                return new Object[] {recorder, any(6)};
            case "lacks":
                return new Object[] {any(3)};
            case "count":
                return new Object[] {any(10)};
            case "trace":
            case "back":
            case "clearTable":
            case "clearTask":
            case "taskWay":
            case "status":
                return new Object[] {};
            default:
                return new Object[] {recorder};
        }
    }

    private Object[] point() {
        int kind = any(3);
        int n = house.count(1) == 0 ? 0 : random.nextInt(house.count(1));
        int k = random.nextInt(1 + random.nextInt(60));
        long longitude = odd() ? degrees(180) : nearby(n, k, 1);
        long latitude = odd() ? degrees(90) : nearby(n, k, 2);
        oracle.reading(n, -1, 0);
        house.reading(n, -1, 0);
        if (kind == 0) {
            long endLongitude = random.nextInt(3) == 0 ? longitude : random.nextInt(4) == 0 ? degrees(180) : aside(longitude);
            long endLatitude = random.nextInt(3) == 0 ? latitude : random.nextInt(4) == 0 ? degrees(90) : aside(latitude);
            return new Object[] {kind, longitude, latitude, endLongitude, endLatitude};
        }
        long radius = odd() ? random.nextLong() : odd() ? 1000000 : odd() ? 0 : 1 + random.nextInt((int) Math.pow(10, 1 + random.nextInt(6)));
        return new Object[] {kind, longitude, latitude, radius, odd() ? random.nextLong() : odd() ? 4L : (long) random.nextInt(4)};
    }

    private long nearby(int n, int k, int what) {
        long bits = house.reading(n, k, what);
        return random.nextBoolean() ? bits : aside(bits);
    }

    private long aside(long bits) {
        return bits(Double.longBitsToDouble(bits) + (random.nextInt(41) - 20) * stride / 4);
    }
}
