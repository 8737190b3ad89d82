import java.io.IOException;
import java.nio.file.Files;
import java.nio.file.Path;

/** README.md's lines of Java are the ones that are run here, and do what is said beside them. */
public final class ReadmeTest {
    public static void main(String[] args) throws IOException {
        asTold();
        sameLines();
        Check.end("ReadmeTest");
    }

    private static void asTold() {
        GliderHouse house = new GliderHouse();
        int trace = house.trace();
        house.here(trace, 1000L, Double.doubleToLongBits(10.0), Double.doubleToLongBits(47.0), Float.floatToIntBits(950f));
        house.fly(trace, 12, 30, Double.doubleToLongBits(0.01), Double.doubleToLongBits(0.01), Float.floatToIntBits(-5f));
        int recorder = house.recorder(0, trace);
        int readings = house.read(recorder);
        double flown = Double.longBitsToDouble(house.flown(recorder));
        Check.due("READINGS", readings, 12);
        Check.yes("11 legs of some 1340 metres, but " + flown, flown > 14000 && flown < 15500);

        house.table(Float.floatToIntBits(1013f), Float.floatToIntBits(0f));
        house.table(Float.floatToIntBits(500f), Float.floatToIntBits(5500f));
        float height = Float.intBitsToFloat(house.height(recorder, 3));
        Check.yes("of 930 hPa, but " + height, height > 889 && height < 891);

        if (house.read(7) == GliderHouse.UNKNOWN) {
            int why = house.status();
            Check.due("status()", why, GliderHouse.UNKNOWN);
        } else {
            Check.yes("there is no recorder 7", false);
        }
    }

    private static void sameLines() throws IOException {
        String readme = Files.readString(Path.of("README.md"));
        String here = Files.readString(Path.of("src/test/java/ReadmeTest.java"));
        int from = readme.indexOf("```java\n") + 8;
        String block = readme.substring(from, readme.indexOf("```", from));
        for (String line : block.split("\n")) {
            String code = line.replaceAll("//.*", "").trim();
            Check.yes("run here: " + code, here.contains(code));
        }
    }
}
