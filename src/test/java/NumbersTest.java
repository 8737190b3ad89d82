import java.lang.reflect.Method;
import java.util.Random;

/** NUMBERS: bits, roots and ranks made by plain arithmetic against those of the library. */
public final class NumbersTest {
    private static Class<?> numbers;

    public static void main(String[] args) throws Exception {
        numbers = Class.forName("GliderHouse$Numbers");
        doubles();
        floats();
        roots();
        ranks();
        Check.end("NumbersTest");
    }

    private static Method method(String name, Class<?>... types) throws Exception {
        Method m = numbers.getDeclaredMethod(name, types);
        m.setAccessible(true);
        return m;
    }

    private static void doubles() throws Exception {
        Method to = method("numberOf", long.class);
        Method from = method("bitsOf", double.class);
        Random random = new Random(1);
        double[] edges = {0.0, -0.0, 1, -1, Double.MIN_VALUE, Double.MIN_NORMAL, Math.nextDown(Double.MIN_NORMAL), Double.MAX_VALUE,
            -Double.MAX_VALUE, 65536, Math.nextDown(65536.0), Math.nextDown(1.0), Math.nextDown(2.0), 0x1p-16, Math.nextDown(0x1p-16)};
        for (int i = 0; i < 300000 + edges.length; i++) {
            long bits = i < edges.length ? Double.doubleToRawLongBits(edges[i]) : random.nextLong();
            if (i % 5 == 0 && i >= edges.length) {
                bits &= 0x800FFFFFFFFFFFFFL;
            }
            double d = Double.longBitsToDouble(bits);
            if (Double.isFinite(d)) {
                Check.due("numberOf", Double.doubleToRawLongBits((double) to.invoke(null, bits)), bits);
                Check.due("bitsOf", (long) from.invoke(null, d), bits);
            }
        }
        for (int e = -1074; e <= 1023; e++) {
            double d = Math.scalb(1.0, e);
            Check.due("bitsOf", (long) from.invoke(null, d), Double.doubleToRawLongBits(d));
            Check.due("bitsOf", (long) from.invoke(null, Math.nextDown(d)), Double.doubleToRawLongBits(Math.nextDown(d)));
        }
    }

    private static void floats() throws Exception {
        Method to = method("floatOf", int.class);
        Method from = method("floatBitsOf", float.class);
        Random random = new Random(2);
        float[] edges = {0f, -0f, Float.MIN_VALUE, Float.MIN_NORMAL, Math.nextDown(Float.MIN_NORMAL), Float.MAX_VALUE, -Float.MAX_VALUE, 1f};
        for (int i = 0; i < 300000 + edges.length; i++) {
            int bits = i < edges.length ? Float.floatToRawIntBits(edges[i]) : random.nextInt();
            if (i % 5 == 0 && i >= edges.length) {
                bits &= 0x807FFFFF;
            }
            float f = Float.intBitsToFloat(bits);
            if (Float.isFinite(f)) {
                Check.due("floatOf", Float.floatToRawIntBits((float) to.invoke(null, bits)), bits);
                Check.due("floatBitsOf", (int) from.invoke(null, f), bits);
            }
        }
        Check.due("endless", (int) from.invoke(null, Float.POSITIVE_INFINITY), 0x7F800000);
        Check.due("endless below 0", (int) from.invoke(null, Float.NEGATIVE_INFINITY), 0xFF800000);
    }

    private static void roots() throws Exception {
        Method root = method("rootOf", double.class);
        Random random = new Random(3);
        for (int i = 0; i < 600000; i++) {
            double x;
            switch (i % 4) {
                case 0:
                    x = Double.longBitsToDouble(random.nextLong() & Long.MAX_VALUE);
                    break;
                case 1:
                    x = 1 + 3 * random.nextDouble();
                    break;
                case 2:
                    // just beside a square, where rounding is hardest
                    double r = random.nextInt(1 << 26) + random.nextInt(1 << 4);
                    x = r * r;
                    x = random.nextBoolean() ? Math.nextUp(x) : Math.nextDown(x);
                    break;
                default:
                    x = Math.scalb(random.nextDouble(), -1000 - random.nextInt(75));
            }
            if (x >= 0 && Double.isFinite(x)) {
                Check.due("rootOf(" + x + ")", Double.doubleToRawLongBits((double) root.invoke(null, x)), Double.doubleToRawLongBits(Math.sqrt(x)));
            }
        }
        double[] edges = {0, 1, 2, 3, 4, Math.nextDown(4.0), Math.nextUp(1.0), Math.nextDown(1.0), Double.MIN_VALUE, Double.MIN_NORMAL, Double.MAX_VALUE, 0x1p32, 0x1p-32};
        for (double x : edges) {
            for (double y : new double[] {x, Math.nextUp(x), Math.nextDown(x)}) {
                if (y >= 0 && Double.isFinite(y)) {
                    Check.due("rootOf(" + y + ")", Double.doubleToRawLongBits((double) root.invoke(null, y)), Double.doubleToRawLongBits(Math.sqrt(y)));
                }
            }
        }
    }

    private static void ranks() throws Exception {
        Method rank = method("rankOf", int.class);
        float[] rising = {Float.NEGATIVE_INFINITY, -Float.MAX_VALUE, -2f, -1f, -Float.MIN_VALUE, 0f, Float.MIN_VALUE, 1f, 2f, Float.MAX_VALUE, Float.POSITIVE_INFINITY};
        for (int i = 0; i < rising.length; i++) {
            for (int j = 0; j < rising.length; j++) {
                int a = (int) rank.invoke(null, Float.floatToIntBits(rising[i]));
                int b = (int) rank.invoke(null, Float.floatToIntBits(rising[j]));
                Check.due("ranks", Integer.compare(a, b), Integer.compare(i, j));
            }
        }
        Check.due("-0", (int) rank.invoke(null, Float.floatToRawIntBits(-0f)), 0);
    }
}
