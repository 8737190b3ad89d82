/** Counts answers that are not the ones due, and ends a test accordingly. */
final class Check {
    private static int wrong = 0;
    private static int asked = 0;
    private static String place = "";

    private Check() {
    }

    /** The promise (or the part of "Terms") and the document's words that the answers asked from here on are held against. */
    static void about(String where, String words) {
        place = where + ", \"" + words + "\": ";
    }

    static void due(String call, long got, long want) {
        asked++;
        if (got != want) {
            wrong++;
            if (wrong <= 50) {
                System.out.println(place + call + " answered " + got + ", due is " + want);
            }
        }
    }

    static void yes(String what, boolean holds) {
        due(what, holds ? 1 : 0, 1);
    }

    /** A refused call: its answer, and that STATUS tells the same refusal. */
    static void refused(GliderHouse x, String call, long got, long want) {
        due(call, got, want);
        due("status() behind " + call, x.status(), want);
    }

    /** A refused call whose answer is not the refusal itself. */
    static void refusedAs(GliderHouse x, String call, long got, long want, long status) {
        due(call, got, want);
        due("status() behind " + call, x.status(), status);
    }

    static long bits(double x) {
        return Double.doubleToLongBits(x);
    }

    static int bits(float x) {
        return Float.floatToIntBits(x);
    }

    static boolean failed() {
        return wrong != 0;
    }

    static void end(String name) {
        System.out.println(name + ": " + asked + " answers asked, " + wrong + " not as due");
        if (wrong != 0) {
            System.exit(1);
        }
    }
}
