/** The edges of READING (part 2 of "Terms"): moments, ROWS that are LOST or too short, fixes, findings, READERS. */
public final class EdgesReadingTest {
    private static final int LOST = 1, BEYOND = 2, SHARED = 3, MOMENT = 4, FIX = 5, JUMP = 6;
    private static final long LATEST = 999999999999L;

    public static void main(String[] args) {
        momentsAtTheirEnds();
        momentsCorrected();
        momentsCorrectedOfNet();
        momentsThatWrap();
        momentThatIsNone();
        cutTowardZero();
        markZero();
        markZeroOfOthers();
        marksLost();
        marksTooShort();
        momentsLost();
        momentsEmpty();
        fixesLost();
        fixesTooShort();
        fixesLongEnough();
        pressuresLostAndShort();
        noisesLostAndShort();
        emptyRows();
        rowsLongerThanMoments();
        onceInABlock();
        anewInTheNextBlock();
        fixesAtTheirEnds();
        orderOfOneItem();
        orderBehindAJump();
        orderOfANet();
        readersClosed();
        Check.end("EdgesReadingTest");
    }

    /** One BLOCK of n READINGS, 10 s apart, with RECORDERS 0 PLAIN, 1 MOTOR, 2 NET of it. */
    private static GliderHouse three(int n) {
        GliderHouse x = Flights.still(n, 10);
        x.recorder(Flights.PLAIN, 0);
        x.recorder(Flights.MOTOR, 0);
        x.recorder(Flights.NET, 0);
        return x;
    }

    private static void reads(GliderHouse x, int recorder, int readings, int... findings) {
        Check.due("read(" + recorder + ")", x.read(recorder), readings);
        Check.due("status()", x.status(), 0);
        Flights.found(x, findings);
    }

    private static void momentsAtTheirEnds() {
        Check.about("Terms 2", "A CORRECTED moment that is not 0 .. 999999999999: a finding MOMENT, and it is no READING");
        for (int r = 0; r < 3; r++) {
            GliderHouse x = three(4);
            long[] moments = {-1, 0, LATEST, LATEST + 1};
            for (int i = 0; i < 4; i++) {
                x.set(0, 0, Flights.MOMENTS, i, moments[i]);
            }
            reads(x, r, 2, MOMENT, 0, 0, MOMENT, 0, 3);
            Check.due("moment 0", x.reading(r, 0, 0), 0);
            Check.due("its item", x.reading(r, 0, 8), 1);
            Check.due("the latest moment", x.reading(r, 1, 0), LATEST);
            Check.due("its item", x.reading(r, 1, 8), 2);
            Check.due("these are no REFUSALS", x.count(7), 0);
        }
    }

    private static void corrected(int shift, long moment, int mark, long want) {
        for (int r = 0; r < 3; r++) {
            GliderHouse x = three(1);
            x.set(0, 0, Flights.MOMENTS, 0, moment);
            x.set(0, 0, Flights.MARKS, 0, mark);
            x.setting(Flights.SHIFT, shift);
            if (want < 0 || want > LATEST) {
                reads(x, r, 0, MOMENT, 0, 0);
            } else {
                reads(x, r, 1);
                Check.due("moment of " + r, x.reading(r, 0, 0), want);
            }
        }
    }

    private static void momentsCorrected() {
        Check.about("Terms 2", "its moment, CORRECTED: PLAIN, MOTOR: and SHIFT");
        corrected(-1, 0, 1, -1);
        corrected(-1, 1, 1, 0);
        corrected(1, -1, 1, 0);
        corrected(1, -2, 1, -1);
        corrected(1, LATEST - 1, 1, LATEST);
        corrected(1, LATEST, 1, LATEST + 1);
        corrected(-1, LATEST + 1, 1, LATEST);
        corrected(1000000, -1000000, 1, 0);
        corrected(1000000, -1000001, 1, -1);
        corrected(-1000000, LATEST + 1000000, 1, LATEST);
        corrected(-1000000, 999999, 1, -1);
    }

    private static void correctedOfNet(int shift, long moment, int mark, long want) {
        GliderHouse x = three(1);
        x.set(0, 0, Flights.MOMENTS, 0, moment);
        x.set(0, 0, Flights.MARKS, 0, mark);
        x.setting(Flights.SHIFT, shift);
        if (want < 0 || want > LATEST) {
            reads(x, 2, 0, MOMENT, 0, 0);
        } else {
            reads(x, 2, 1);
            Check.due("moment", x.reading(2, 0, 0), want);
            Check.due("mark", x.reading(2, 0, 5), mark);
        }
    }

    private static void momentsCorrectedOfNet() {
        Check.about("Terms 2", "NET: and SHIFT by MARK i, cut toward 0");
        correctedOfNet(2, -1, 2, 0);
        correctedOfNet(2, -2, 2, -1);
        correctedOfNet(2, 0, -2, -1);
        correctedOfNet(2, 1, -2, 0);
        correctedOfNet(-1000000, LATEST, -1, LATEST + 1000000);
        correctedOfNet(-1000000, LATEST - 7812, -128, LATEST);
        correctedOfNet(-1000000, LATEST - 7811, -128, LATEST + 1);
        correctedOfNet(1000000, 0, 127, 7874);
        correctedOfNet(1000000, 7874, -127, 0);
        correctedOfNet(1000000, 7873, -127, -1);
    }

    private static void momentsThatWrap() {
        Check.about("Terms 2", "A CORRECTED moment that is not 0 .. 999999999999: a finding MOMENT, and it is no READING");
        corrected(1000000, Long.MAX_VALUE, 1, -1);
        corrected(-1000000, Long.MIN_VALUE, 1, -1);
        corrected(1, Long.MIN_VALUE, 1, -1);
        corrected(-1, Long.MAX_VALUE, 1, -1);
        correctedOfNet(-1000000, Long.MAX_VALUE, -1, -1);
        correctedOfNet(1000000, Long.MIN_VALUE, -1, -1);
    }

    private static void momentThatIsNone() {
        Check.about("Terms 2", "a finding MOMENT, and it is no READING");
        for (int r = 0; r < 2; r++) {
            GliderHouse x = three(3);
            x.set(0, 0, Flights.MOMENTS, 0, -1);
            x.row(0, 0, Flights.FIXES, -1);
            x.row(0, 0, Flights.PRESSURES, 0);
            x.row(0, 0, Flights.NOISES, -1);
            if (r == 0) {
                reads(x, r, 2, MOMENT, 0, 0, LOST, 0, 1, BEYOND, 0, 1);
            } else {
                reads(x, r, 2, MOMENT, 0, 0, LOST, 0, 1, BEYOND, 0, 1, LOST, 0, 1);
            }
        }
        // the BLOCK goes on behind it, unlike behind one that can't be CORRECTED
        GliderHouse x = three(3);
        x.set(0, 0, Flights.MOMENTS, 1, -1);
        reads(x, 2, 2, MOMENT, 0, 1);
        Check.due("the one behind", x.reading(2, 1, 0), 30);
    }

    private static void cutTowardZero() {
        Check.about("Terms 2", "NET: and SHIFT by MARK i, cut toward 0");
        int[][] shifts = {{7, 2, 3}, {-7, 2, -3}, {7, -2, -3}, {-7, -2, 3}, {1, 2, 0}, {-1, 2, 0}, {127, 127, 1}, {126, 127, 0}, {-128, -128, 1}, {127, -128, 0}, {0, -128, 0}};
        for (int[] s : shifts) {
            correctedOfNet(s[0], 100, s[1], 100 + s[2]);
        }
    }

    private static void markZero() {
        Check.about("Terms 2", "(SHARED by 0). Where it can't be CORRECTED, a finding, and from there on no more of this BLOCK");
        int[] shifts = {0, 60};
        for (int shift : shifts) {
            GliderHouse x = three(3);
            x.fly(0, 2, 10, 0, 0, 0);
            x.setting(Flights.SHIFT, shift);
            x.set(0, 0, Flights.MARKS, 1, 0);
            x.set(0, 0, Flights.FIXES, 4, Flights.NO_NUMBER);
            reads(x, 2, 3, SHARED, 0, 1);
            Check.due("the next BLOCK is READ", x.reading(2, 1, 7), 1);
            Check.due("from its first item on", x.reading(2, 1, 8), 0);
            Check.due("it is a REFUSAL", x.count(7), 1);
            x.set(0, 0, Flights.MARKS, 0, 256);
            reads(x, 2, 2, SHARED, 0, 0);
        }
    }

    private static void markZeroOfOthers() {
        Check.about("Terms 2", "of a NET its mark (MARKS i)");
        for (int r = 0; r < 2; r++) {
            GliderHouse x = three(2);
            x.set(0, 0, Flights.MARKS, 0, 0);
            reads(x, r, 2);
            x.row(0, 0, Flights.MARKS, -1);
            reads(x, r, 2);
            x.row(0, 0, Flights.MARKS, 0);
            reads(x, r, 2);
            Check.due("it has no mark", x.reading(r, 0, 9) & 8, 0);
        }
    }

    private static void marksLost() {
        Check.about("Terms 2", "(of MARKS of a NET the moment is wanted first)");
        GliderHouse x = three(3);
        x.fly(0, 1, 10, 0, 0, 0);
        x.row(0, 0, Flights.MARKS, -1);
        x.row(0, 0, Flights.FIXES, -1);
        reads(x, 2, 1, LOST, 0, 0);
        Check.due("the next BLOCK", x.reading(2, 0, 7), 1);
        x.set(0, 0, Flights.MOMENTS, 0, -1);
        reads(x, 2, 1, LOST, 0, 0);
    }

    private static void marksTooShort() {
        Check.about("Terms 2", "(of MARKS of a NET the moment is wanted first)");
        for (int n = 0; n < 4; n++) {
            GliderHouse x = three(3);
            x.row(0, 0, Flights.MARKS, n);
            for (int i = 0; i < n; i++) {
                x.set(0, 0, Flights.MARKS, i, 1);
            }
            if (n < 3) {
                reads(x, 2, n, BEYOND, 0, n);
            } else {
                reads(x, 2, 3);
            }
        }
    }

    private static void momentsLost() {
        Check.about("Terms 2", "MOMENTS LOST: a finding LOST, and the BLOCK is over");
        for (int r = 0; r < 3; r++) {
            GliderHouse x = three(3);
            x.fly(0, 1, 10, 0, 0, 0);
            for (int kind = 0; kind < 5; kind++) {
                x.row(0, 0, kind, -1);
            }
            reads(x, r, 1, LOST, 0, -1);
            Check.due("the next BLOCK", x.reading(r, 0, 7), 1);
            Check.due("REFUSALS", x.count(7), 1);
        }
    }

    private static void momentsEmpty() {
        Check.about("Terms 2", "Else each item i of MOMENTS is a READING, in order");
        for (int r = 0; r < 3; r++) {
            GliderHouse x = three(3);
            x.row(0, 0, Flights.MOMENTS, 0);
            reads(x, r, 0);
            for (int kind = 1; kind < 5; kind++) {
                x.row(0, 0, kind, -1);
            }
            reads(x, r, 0);
            x.block(0);
            reads(x, r, 0, LOST, 1, -1);
        }
        GliderHouse x = new GliderHouse();
        x.trace();
        x.recorder(Flights.PLAIN, 0);
        reads(x, 0, 0);
        Check.due("no BLOCK, no READER", x.count(5), 0);
        GliderHouse y = three(24);
        for (int r = 0; r < 3; r++) {
            reads(y, r, 24);
            Check.due("the last item", y.reading(r, 23, 8), 23);
        }
    }

    private static void fixesLost() {
        Check.about("Terms 2", "A ROW that is LOST, or too short (BEYOND; of FIXES by either), is a finding where it is first wanted in the BLOCK");
        for (int r = 0; r < 3; r++) {
            GliderHouse x = three(3);
            x.row(0, 0, Flights.FIXES, -1);
            reads(x, r, 3, LOST, 0, 0);
            for (int k = 0; k < 3; k++) {
                Check.due("no fix", x.reading(r, k, 9) & 1, 0);
                Check.due("longitude", x.reading(r, k, 1), 0);
                Check.due("not KEPT", x.reading(r, k, 6), 0);
            }
        }
    }

    private static void fixesTooShort() {
        Check.about("Terms 2", "too short (BEYOND; of FIXES by either)");
        for (int n = 0; n <= 6; n++) {
            GliderHouse x = three(3);
            x.row(0, 0, Flights.FIXES, n);
            int whole = n / 2;
            if (whole < 3) {
                reads(x, 0, 3, BEYOND, 0, whole);
            } else {
                reads(x, 0, 3);
            }
            for (int k = 0; k < 3; k++) {
                Check.due(n + " FIXES, READING " + k, x.reading(0, k, 9), k < whole ? 3 : 2);
            }
        }
    }

    private static void fixesLongEnough() {
        Check.about("Terms 2", "its fix: FIXES 2 i and 2 i + 1");
        GliderHouse x = three(24);
        reads(x, 0, 24);
        Check.due("the last has its fix", x.reading(0, 23, 9), 3);
        x.row(0, 0, Flights.FIXES, 47);
        reads(x, 0, 24, BEYOND, 0, 23);
        Check.due("the last has none", x.reading(0, 23, 9), 2);
        x.row(0, 0, Flights.FIXES, 46);
        reads(x, 0, 24, BEYOND, 0, 23);
        x.row(0, 0, Flights.FIXES, 45);
        reads(x, 0, 24, BEYOND, 0, 22);
    }

    private static void pressuresLostAndShort() {
        Check.about("Terms 2", "from there on READINGS of the BLOCK have nothing of it");
        GliderHouse x = three(3);
        x.row(0, 0, Flights.PRESSURES, -1);
        for (int r = 0; r < 3; r++) {
            reads(x, r, 3, LOST, 0, 0);
            Check.due("no pressure", x.reading(r, 0, 9) & 2, 0);
            Check.due("no pressure", x.reading(r, 2, 9) & 2, 0);
        }
        for (int n = 0; n <= 3; n++) {
            x.row(0, 0, Flights.PRESSURES, n);
            if (n < 3) {
                reads(x, 0, 3, BEYOND, 0, n);
            } else {
                reads(x, 0, 3);
            }
            for (int k = 0; k < 3; k++) {
                Check.due(n + " PRESSURES, READING " + k, x.reading(0, k, 9), k < n ? 3 : 1);
            }
        }
    }

    private static void noisesLostAndShort() {
        Check.about("Terms 2", "of a MOTOR its noise: NOISES i");
        GliderHouse x = three(3);
        x.row(0, 0, Flights.NOISES, -1);
        reads(x, 0, 3);
        reads(x, 2, 3);
        reads(x, 1, 3, LOST, 0, 0);
        for (int n = 0; n <= 3; n++) {
            x.row(0, 0, Flights.NOISES, n);
            if (n < 3) {
                reads(x, 1, 3, BEYOND, 0, n);
            } else {
                reads(x, 1, 3);
            }
            for (int k = 0; k < 3; k++) {
                Check.due(n + " NOISES, READING " + k, x.reading(1, k, 9), k < n ? 7 : 3);
            }
            reads(x, 0, 3);
            reads(x, 2, 3);
        }
    }

    private static void emptyRows() {
        Check.about("Terms 2", "A ROW that is LOST, or too short (BEYOND; of FIXES by either), is a finding where it is first wanted in the BLOCK");
        GliderHouse x = three(2);
        for (int kind = 1; kind < 5; kind++) {
            x.row(0, 0, kind, 0);
        }
        reads(x, 0, 2, BEYOND, 0, 0, BEYOND, 0, 0);
        reads(x, 1, 2, BEYOND, 0, 0, BEYOND, 0, 0, BEYOND, 0, 0);
        reads(x, 2, 0, BEYOND, 0, 0);
        Check.due("REFUSALS", x.count(7), 6);
        Check.due("a READING that has nothing", x.reading(1, 1, 9), 0);
        Check.due("its moment", x.reading(1, 1, 0), 20);
    }

    private static void rowsLongerThanMoments() {
        Check.about("Terms 2", "Else each item i of MOMENTS is a READING, in order");
        GliderHouse x = three(1);
        for (int kind = 1; kind < 5; kind++) {
            x.row(0, 0, kind, Flights.MOST[kind]);
        }
        x.set(0, 0, Flights.MARKS, 0, 1);
        for (int r = 0; r < 3; r++) {
            reads(x, r, 1);
        }
    }

    private static void onceInABlock() {
        Check.about("Terms 2", "is a finding where it is first wanted in the BLOCK; from there on READINGS of the BLOCK have nothing of it");
        GliderHouse x = three(24);
        x.row(0, 0, Flights.FIXES, -1);
        x.row(0, 0, Flights.PRESSURES, 23);
        x.row(0, 0, Flights.NOISES, 1);
        reads(x, 1, 24, LOST, 0, 0, BEYOND, 0, 1, BEYOND, 0, 23);
        Check.due("REFUSALS", x.count(7), 3);
        reads(x, 1, 24, LOST, 0, 0, BEYOND, 0, 1, BEYOND, 0, 23);
        Check.due("READ again, MET again", x.count(7), 6);
    }

    private static void anewInTheNextBlock() {
        Check.about("Terms 2", "is a finding where it is first wanted in the BLOCK");
        GliderHouse x = three(2);
        x.fly(0, 2, 10, 0, 0, 0);
        x.fly(0, 2, 10, 0, 0, 0);
        x.row(0, 0, Flights.PRESSURES, -1);
        x.row(0, 1, Flights.PRESSURES, 1);
        reads(x, 0, 6, LOST, 0, 0, BEYOND, 1, 1);
        int[] has = {1, 1, 3, 1, 3, 3};
        for (int k = 0; k < 6; k++) {
            Check.due("READING " + k, x.reading(0, k, 9), has[k]);
        }
    }

    private static void fixesAtTheirEnds() {
        Check.about("Terms 2", "a finding FIX, and it has none, if these are not numbers from -180 to 180, -90 to 90");
        double[][] good = {{-180, -90}, {180, 90}, {-180, 90}, {180, -90}, {Math.nextDown(180.0), Math.nextUp(-90.0)}, {Double.MIN_VALUE, -Double.MIN_VALUE}};
        for (double[] fix : good) {
            GliderHouse x = Flights.flight(10, fix);
            Flights.found(x);
            Check.due("longitude", x.reading(0, 0, 1), Check.bits(fix[0]));
            Check.due("latitude", x.reading(0, 0, 2), Check.bits(fix[1]));
            Check.due("KEPT", x.reading(0, 0, 6), 1);
        }
        double[][] bad = {{Math.nextUp(180.0), 0}, {Math.nextDown(-180.0), 0}, {0, Math.nextUp(90.0)}, {0, Math.nextDown(-90.0)}, {0, 180}, {1e300, 0}};
        for (double[] fix : bad) {
            GliderHouse x = Flights.flight(10, fix);
            Flights.found(x, FIX, 0, 0);
            Check.due("it has none", x.reading(0, 0, 9), 2);
            Check.due("it is no REFUSAL", x.count(7), 0);
            Check.due("not KEPT", x.reading(0, 0, 6), 0);
        }
        // a FIX is found for each such item, as FIXES are not gone by it
        GliderHouse x = Flights.flight(10, Flights.fix(181, 0), Flights.fix(0, 0), Flights.fix(0, 91));
        Flights.found(x, FIX, 0, 0, FIX, 0, 2);
        Check.due("the one between has its fix", x.reading(0, 1, 9), 3);
    }

    private static void orderOfOneItem() {
        Check.about("Terms 2", "Of one item in this order: moment (MARK), fix, JUMP, pressure, noise");
        GliderHouse x = three(2);
        x.set(0, 0, Flights.FIXES, 2, Flights.NO_NUMBER);
        x.row(0, 0, Flights.PRESSURES, 1);
        x.row(0, 0, Flights.NOISES, 1);
        reads(x, 1, 2, FIX, 0, 1, BEYOND, 0, 1, BEYOND, 0, 1);
        x.row(0, 0, Flights.FIXES, 2);
        x.row(0, 0, Flights.PRESSURES, -1);
        x.row(0, 0, Flights.NOISES, 0);
        reads(x, 1, 2, LOST, 0, 0, BEYOND, 0, 0, BEYOND, 0, 1);
    }

    private static void orderBehindAJump() {
        Check.about("Terms 2", "These are findings, too, behind their fix");
        GliderHouse x = three(2);
        Flights.put(x, 1, Flights.fix(50, 0));
        x.row(0, 0, Flights.PRESSURES, 1);
        x.row(0, 0, Flights.NOISES, 1);
        reads(x, 1, 2, JUMP, 0, 1, BEYOND, 0, 1, BEYOND, 0, 1);
        Check.due("a JUMP is no REFUSAL", x.count(7), 2);
    }

    private static void orderOfANet() {
        Check.about("Terms 2", "Of one item in this order: moment (MARK), fix, JUMP, pressure, noise");
        GliderHouse x = three(3);
        x.set(0, 0, Flights.MARKS, 2, 0);
        x.set(0, 0, Flights.MOMENTS, 2, -5);
        x.row(0, 0, Flights.FIXES, 4);
        x.row(0, 0, Flights.PRESSURES, 2);
        reads(x, 2, 2, SHARED, 0, 2);
        x.set(0, 0, Flights.MARKS, 2, 1);
        reads(x, 2, 2, MOMENT, 0, 2);
        x.set(0, 0, Flights.MOMENTS, 2, 30);
        reads(x, 2, 3, BEYOND, 0, 2, BEYOND, 0, 2);
        Check.due("its mark", x.reading(2, 2, 9), 8);
    }

    private static void readersClosed() {
        Check.about("Terms 2", "a READER being opened for each, and closed when it is over, however it ends");
        GliderHouse x = new GliderHouse();
        x.trace();
        for (int b = 0; b < 8; b++) {
            x.fly(0, 2, 10, 0, 0, 0);
        }
        x.row(0, 0, Flights.MOMENTS, -1);
        x.row(0, 1, Flights.MARKS, -1);
        x.row(0, 2, Flights.MARKS, 1);
        x.set(0, 3, Flights.MARKS, 0, 0);
        x.row(0, 4, Flights.MOMENTS, 0);
        x.set(0, 5, Flights.MOMENTS, 1, -1);
        x.row(0, 6, Flights.FIXES, -1);
        x.recorder(Flights.NET, 0);
        for (int i = 1; i <= 3; i++) {
            x.read(0);
            Check.due("opened", x.count(5), 8 * i);
            Check.due("closed", x.count(6), 8 * i);
        }
        x.read(1);
        Check.due("a refused read() opens none", x.count(5), 24);
        x.recorder(Flights.PLAIN, 0);
        x.read(1);
        x.doubled(0, 1);
        x.read(2);
        Check.due("a DOUBLED one has no BLOCKS of its own", x.count(5), 32);
        Check.due("closed", x.count(6), 32);
    }
}
