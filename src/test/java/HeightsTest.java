/** Promises 26, 27 and 29 to 31: GROUND, HEIGHT and GLIDES. */
public final class HeightsTest {
    private static final int NO_FLOAT = 0x7FC00000;
    private static final int ENDLESS = 0x7F800000;

    public static void main(String[] args) {
        heights();
        heightEdges();
        ground();
        refusals();
        glides();
        glideEdges();
        fullTable();
        onAPoint();
        compare();
        bestGlide();
        Check.end("HeightsTest");
    }

    /** READINGS 10 s apart on a meridian, with the pressures told. */
    private static GliderHouse house(float... pressures) {
        GliderHouse x = new GliderHouse();
        x.trace();
        x.here(0, 0, Check.bits(10.0), Check.bits(47.0), 0);
        x.fly(0, pressures.length, 10, 0, Check.bits(0.001), 0);
        for (int i = 0; i < pressures.length; i++) {
            x.set(0, 0, 2, i, Float.floatToRawIntBits(pressures[i]));
        }
        x.recorder(0, 0);
        x.read(0);
        return x;
    }

    private static void lay(GliderHouse x, float pressure, float height) {
        x.table(Check.bits(pressure), Check.bits(height));
    }

    private static void tall(GliderHouse x, int k, float want) {
        Check.due("height(0, " + k + ")", x.height(0, k), Check.bits(want));
        Check.due("status", x.status(), 0);
    }

    private static void heights() {
        float[] pressures = {1013.25f, 1000f, 950.3f, 700f, 699.9f, 300f, 1013.26f, 299.99f, Float.NaN, Float.POSITIVE_INFINITY, Float.NEGATIVE_INFINITY, 850f};
        GliderHouse x = house(pressures);
        tall(x, 1, Float.NaN);
        lay(x, 1013.25f, -12.5f);
        tall(x, 0, Float.NaN);
        lay(x, 700f, 3012.7f);
        lay(x, 300f, 9164.1f);
        tall(x, 0, -12.5f + (1013.25f - 1013.25f) * ((3012.7f - -12.5f) / (1013.25f - 700f)));
        tall(x, 1, -12.5f + (1013.25f - 1000f) * ((3012.7f - -12.5f) / (1013.25f - 700f)));
        tall(x, 2, -12.5f + (1013.25f - 950.3f) * ((3012.7f - -12.5f) / (1013.25f - 700f)));
        tall(x, 3, -12.5f + (1013.25f - 700f) * ((3012.7f - -12.5f) / (1013.25f - 700f)));
        tall(x, 4, 3012.7f + (700f - 699.9f) * ((9164.1f - 3012.7f) / (700f - 300f)));
        tall(x, 5, 3012.7f + (700f - 300f) * ((9164.1f - 3012.7f) / (700f - 300f)));
        for (int k = 6; k < 11; k++) {
            tall(x, k, Float.NaN);
        }
        x.clearTable();
        tall(x, 2, Float.NaN);
    }

    private static void heightEdges() {
        GliderHouse x = house(900f, 800f);
        lay(x, 900f, -0f);
        lay(x, 800f, -1f);
        tall(x, 0, -0f);
        tall(x, 1, -1f);
        x.clearTable();
        lay(x, 900f, 1e-40f);
        lay(x, 800f, 3e-45f);
        tall(x, 0, 1e-40f);
        x.row(0, 0, 2, 1);
        x.read(0);
        tall(x, 1, Float.NaN);
        GliderHouse y = house(0f, 0f, 1f);
        y.set(0, 0, 2, 0, Check.bits(-0f));
        y.read(0);
        lay(y, 2000f, 0f);
        lay(y, 0f, 2000f);
        tall(y, 0, 2000f);
        tall(y, 1, 2000f);
        tall(y, 2, 1999f);
    }

    private static void fullTable() {
        GliderHouse x = house(0f, 1f, 8.5f, 9f, 0f);
        x.set(0, 0, 2, 4, 0x7FC00001);
        x.read(0);
        for (int i = 0; i < 10; i++) {
            lay(x, 9 - i, 100 * i * i);
        }
        tall(x, 0, 8100f);
        tall(x, 1, 6400f);
        tall(x, 2, 50f);
        tall(x, 3, 0f);
        tall(x, 4, Float.NaN);
    }

    /** On a POINT in the midst it is F: the reckoning from E on rounds otherwise than the POINT's own height. */
    private static void onAPoint() {
        boolean told = false;
        for (int i = 1; i < 1000 && !told; i++) {
            float e = 1000f + i / 7f;
            float h = i * 3.3f;
            float reckoned = 10.1f + (e - 900.3f) * ((h - 10.1f) / (e - 900.3f));
            told = reckoned != h;
            if (told) {
                GliderHouse x = house(900.3f);
                lay(x, e, 10.1f);
                lay(x, 900.3f, h);
                lay(x, 800f, 39999f);
                tall(x, 0, reckoned);
            }
        }
        Check.yes("there is such a TABLE", told);
    }

    private static void ground() {
        GliderHouse x = house(900f, 890f, 850f, 2000f, 800f);
        lay(x, 900f, 1000f);
        lay(x, 800f, 2000f);
        Check.due("no such moment", x.ground(0, 11), GliderHouse.NONE);
        Check.due("NONE is no refusal", x.status(), 0);
        Check.due("no height", x.ground(0, 40), GliderHouse.NONE);
        tall(x, 0, 1000f);
        Check.due("ground", x.ground(0, 20), 1);
        tall(x, 0, 1000f - 1100f);
        tall(x, 1, 0f);
        Check.due("HEIGHT by TABLE, without GROUND", x.ground(0, 30), 1);
        tall(x, 1, 1100f - 1500f);
        x.set(0, 0, 0, 3, 20);
        x.set(0, 0, 0, 1, 21);
        x.set(0, 0, 0, 4, 20);
        x.read(0);
        tall(x, 1, 1100f - 1500f);
        Check.due("the first of the moment that has one", x.ground(0, 20), 1);
        tall(x, 4, 0f);
        tall(x, 0, 1000f - 2000f);
        x.clearTable();
        lay(x, 900f, 0f);
        lay(x, 800f, 100f);
        tall(x, 4, 100f - 2000f);
        x.recorder(0, 0);
        x.read(1);
        Check.due("GROUND is of its RECORDER", x.height(1, 4), Check.bits(100f));
    }

    private static void refusals() {
        GliderHouse x = house(900f, 800f);
        x.recorder(0, 0);
        lay(x, 900f, 0f);
        lay(x, 800f, 100f);
        Check.refused(x, "ground UNKNOWN", x.ground(2, 10), GliderHouse.UNKNOWN);
        Check.refused(x, "ground STATE", x.ground(1, 10), GliderHouse.STATE);
        Check.refusedAs(x, "height UNKNOWN", x.height(-1, 0), 0, GliderHouse.UNKNOWN);
        Check.refusedAs(x, "height STATE", x.height(1, 7), 0, GliderHouse.STATE);
        Check.refusedAs(x, "height READING", x.height(0, 2), 0, GliderHouse.UNKNOWN);
        Check.refusedAs(x, "height READING", x.height(0, -1), 0, GliderHouse.UNKNOWN);
        Check.refusedAs(x, "glide UNKNOWN", x.glide(2, 0, 1), 0, GliderHouse.UNKNOWN);
        Check.refusedAs(x, "glide STATE", x.glide(1, 9, 9), 0, GliderHouse.STATE);
        Check.refusedAs(x, "glide READING", x.glide(0, 2, 1), 0, GliderHouse.UNKNOWN);
        Check.refusedAs(x, "glide READING", x.glide(0, 1, -1), 0, GliderHouse.UNKNOWN);
        Check.refused(x, "compare UNKNOWN", x.compare(2, 0, 1, 0, 1), GliderHouse.UNKNOWN);
        Check.refused(x, "compare STATE", x.compare(1, 9, 9, 9, 9), GliderHouse.STATE);
        for (int wrong = 0; wrong < 4; wrong++) {
            int[] k = {0, 1, 0, 1};
            k[wrong] = 2;
            Check.refused(x, "compare READING", x.compare(0, k[0], k[1], k[2], k[3]), GliderHouse.UNKNOWN);
        }
        Check.refused(x, "bestGlide UNKNOWN", x.bestGlide(5), GliderHouse.UNKNOWN);
        Check.refused(x, "bestGlide STATE", x.bestGlide(1), GliderHouse.STATE);
    }

    private static float way(GliderHouse x, int i, int j) {
        return (float) Double.longBitsToDouble(x.way(0, i, j));
    }

    private static void glides() {
        GliderHouse x = house(900f, 890f, 895f, 890f, 2000f);
        lay(x, 900f, 0f);
        lay(x, 800f, 1000f);
        Check.due("up", x.glide(0, 0, 1), Check.bits(way(x, 0, 1) / (0f - 100f)));
        Check.due("down", x.glide(0, 1, 2), Check.bits(way(x, 1, 2) / (100f - 50f)));
        Check.due("level", x.glide(0, 1, 3), ENDLESS);
        Check.due("level back", x.glide(0, 3, 1), ENDLESS);
        Check.due("nowhere", x.glide(0, 1, 1), NO_FLOAT);
        Check.due("no HEIGHT", x.glide(0, 1, 4), NO_FLOAT);
        Check.due("no HEIGHT", x.glide(0, 4, 1), NO_FLOAT);
        Check.due("GROUND", x.ground(0, 30), 1);
        Check.due("down", x.glide(0, 1, 2), Check.bits(way(x, 1, 2) / ((100f - 50f) - (50f - 50f))));
        x.set(0, 0, 1, 2, Check.bits(1000.0));
        x.read(0);
        Check.due("no fix", x.glide(0, 0, 1), NO_FLOAT);
        Check.due("no fix", x.glide(0, 1, 0), NO_FLOAT);
    }

    private static void glideEdges() {
        GliderHouse x = house(900f, 890f, 880f);
        lay(x, 900f, 0f);
        lay(x, 800f, 1000f);
        for (int i = 1; i < 3; i++) {
            x.set(0, 0, 1, 2 * i + 1, x.get(0, 0, 1, 1));
        }
        x.read(0);
        Check.due("way 0, down", x.glide(0, 1, 0), 0);
        Check.due("way 0, up", x.glide(0, 0, 1), Check.bits(-0f));
        // a WAY that is above 0 as a double but 0 as a float: level is endless, not no number
        x.set(0, 0, 1, 3, Check.bits(0.0));
        x.set(0, 0, 1, 1, Check.bits(1e-60));
        x.set(0, 0, 2, 1, Check.bits(900f));
        x.setting(1, 100000);
        x.read(0);
        Check.due("a way of nearly nothing", (float) Double.longBitsToDouble(x.way(0, 0, 1)) == 0f ? 1 : 0, 1);
        Check.due("but it is one", x.way(0, 0, 1) == 0 ? 0 : 1, 1);
        Check.due("level", x.glide(0, 0, 1), ENDLESS);
        // a difference so small that the quotient is endless as a float
        GliderHouse y = house(900f, 800f);
        lay(y, 900f, 0f);
        lay(y, 800f, 1e-42f);
        Check.due("nearly level, down", y.glide(0, 1, 0), ENDLESS);
        Check.due("nearly level, up", y.glide(0, 0, 1), 0xFF800000);
        Check.due("endless below 0 against above", y.compare(0, 0, 1, 1, 0), -1);
    }

    private static void compare() {
        GliderHouse x = house(900f, 890f, 895f, 890f, 880f, 890f);
        lay(x, 900f, 0f);
        lay(x, 800f, 1000f);
        Check.due("less", x.compare(0, 0, 1, 1, 2), -1);
        Check.due("greater", x.compare(0, 1, 2, 0, 1), 1);
        Check.due("equal", x.compare(0, 1, 2, 1, 2), 0);
        Check.due("endless above", x.compare(0, 1, 3, 1, 2), 1);
        Check.due("below endless", x.compare(0, 1, 2, 1, 3), -1);
        Check.due("endless both", x.compare(0, 1, 3, 3, 1), 0);
        Check.due("no number", x.compare(0, 1, 1, 1, 2), 2);
        Check.due("no number", x.compare(0, 1, 2, 1, 1), 2);
        Check.due("below 0: more up is greater", x.compare(0, 2, 4, 2, 3), Float.compare(way(x, 2, 4) / -150f, way(x, 2, 3) / -50f));
        for (int i = 1; i < 3; i++) {
            x.set(0, 0, 1, 2 * i + 1, x.get(0, 0, 1, 1));
        }
        x.read(0);
        Check.due("0 and -0 are equal", x.compare(0, 0, 1, 1, 0), 0);
        Check.due("status", x.status(), 0);
    }

    private static void bestGlide() {
        GliderHouse x = house(900f, 890f, 895f, 898f, 899f, 899.5f, 890f);
        Check.due("no TABLE", x.bestGlide(0), GliderHouse.NONE);
        Check.due("status", x.status(), 0);
        lay(x, 900f, 0f);
        lay(x, 800f, 1000f);
        Check.due("the flattest", x.bestGlide(0), 4);
        x.set(0, 0, 2, 2, Check.bits(890f));
        x.read(0);
        Check.due("endless", x.bestGlide(0), 1);
        x.set(0, 0, 2, 6, Check.bits(899.5f));
        x.read(0);
        Check.due("the first of several", x.bestGlide(0), 1);
        // READING 1 JUMPS: from 0 to the next KEPT one
        x.set(0, 0, 1, 2, Check.bits(50.0));
        x.set(0, 0, 2, 2, Check.bits(900f));
        x.read(0);
        Check.due("KEPT ones only", x.bestGlide(0), 0);
        GliderHouse y = house(900f, 890f, 870f);
        lay(y, 900f, 0f);
        lay(y, 800f, 1000f);
        Check.due("all below 0", y.bestGlide(0), 1);
        GliderHouse z = house(900f);
        lay(z, 900f, 0f);
        lay(z, 800f, 1000f);
        Check.due("only one", z.bestGlide(0), GliderHouse.NONE);
    }
}
