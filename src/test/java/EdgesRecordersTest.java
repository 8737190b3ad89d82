/** The edges of what is KEPT, of DOUBLED RECORDERS, of 4000 REFUSALS, and of promises 21 to 25. */
public final class EdgesRecordersTest {
    private static final int LOST = 1, BEYOND = 2, JUMP = 6;

    public static void main(String[] args) {
        recordersAtTheirEnds();
        recordersFull();
        doubledUnknown();
        doubledOutside();
        doubledFull();
        lessThanASecond();
        justTheJump();
        jumpOverSeconds();
        besideTheLatestKept();
        keptOverBlocks();
        jumpSettings();
        doubledNoSameMoment();
        doubledOfNothing();
        doubledFirstOfMoment();
        doubledPartByPart();
        doubledAsReadLast();
        doubledBlocksAndItems();
        readUnknown();
        readState();
        refusalsBelowTheLimit();
        refusalsAtTheLimit();
        behindTheLimit();
        spentInABlock();
        readingUnknown();
        readingState();
        readingLacking();
        findingsAtTheirEnds();
        findingsOfTheLatest();
        Check.end("EdgesRecordersTest");
    }

    private static void recordersAtTheirEnds() {
        Check.about("Promise 21", "A RECORDER of a kind 0 .. 2 of a TRACE: its number. OUTSIDE: the kind; UNKNOWN: the TRACE");
        GliderHouse x = new GliderHouse();
        Check.refused(x, "TRACE 0", x.recorder(0, 0), GliderHouse.UNKNOWN);
        int[] kinds = {-1, 3, Integer.MIN_VALUE, Integer.MAX_VALUE};
        for (int kind : kinds) {
            Check.refused(x, "kind " + kind + ", ahead of the TRACE", x.recorder(kind, 0), GliderHouse.OUTSIDE);
        }
        x.trace();
        for (int kind : kinds) {
            Check.refused(x, "kind " + kind, x.recorder(kind, 0), GliderHouse.OUTSIDE);
        }
        int[] none = {1, -1, 6, Integer.MAX_VALUE};
        for (int trace : none) {
            Check.refused(x, "TRACE " + trace, x.recorder(2, trace), GliderHouse.UNKNOWN);
        }
        Check.due("kind 0", x.recorder(0, 0), 0);
        Check.due("kind 2", x.recorder(2, 0), 1);
        Check.due("count(1)", x.count(1), 2);
        Check.due("status()", x.status(), 0);
    }

    private static void recordersFull() {
        Check.about("Promise 21", "UNKNOWN: the TRACE; FULL");
        GliderHouse x = new GliderHouse();
        x.trace();
        for (int i = 0; i <= 7; i++) {
            Check.due("recorder", x.recorder(0, 0), i);
        }
        Check.refused(x, "the 9th", x.recorder(0, 0), GliderHouse.FULL);
        Check.refused(x, "OUTSIDE ahead of FULL", x.recorder(3, 0), GliderHouse.OUTSIDE);
        Check.refused(x, "UNKNOWN ahead of FULL", x.recorder(0, 1), GliderHouse.UNKNOWN);
        Check.due("count(1)", x.count(1), 8);
        Check.due("RECORDER 7 is there", x.read(7), 0);
        Check.refused(x, "RECORDER 8 is not", x.read(8), GliderHouse.UNKNOWN);
    }

    private static void doubledUnknown() {
        Check.about("Promise 22", "A DOUBLED one: its number. UNKNOWN");
        GliderHouse x = new GliderHouse();
        x.trace();
        Check.refused(x, "of none", x.doubled(0, 0), GliderHouse.UNKNOWN);
        x.recorder(0, 0);
        x.recorder(0, 0);
        int[] none = {-1, 2, 8, Integer.MIN_VALUE, Integer.MAX_VALUE};
        for (int r : none) {
            Check.refused(x, "first " + r, x.doubled(r, 0), GliderHouse.UNKNOWN);
            Check.refused(x, "second " + r, x.doubled(0, r), GliderHouse.UNKNOWN);
            Check.refused(x, "UNKNOWN, though both are one", x.doubled(r, r), GliderHouse.UNKNOWN);
        }
        Check.due("count(1)", x.count(1), 2);
    }

    private static void doubledOutside() {
        Check.about("Promise 22", "OUTSIDE: one is DOUBLED, or both are one");
        GliderHouse x = new GliderHouse();
        x.trace();
        x.recorder(0, 0);
        x.recorder(1, 0);
        Check.refused(x, "both are one", x.doubled(1, 1), GliderHouse.OUTSIDE);
        Check.due("doubled", x.doubled(0, 1), 2);
        Check.due("of the same parts", x.doubled(1, 0), 3);
        Check.refused(x, "the first is DOUBLED", x.doubled(2, 0), GliderHouse.OUTSIDE);
        Check.refused(x, "the second is DOUBLED", x.doubled(0, 3), GliderHouse.OUTSIDE);
        Check.refused(x, "both are DOUBLED", x.doubled(2, 3), GliderHouse.OUTSIDE);
        Check.refused(x, "both are one DOUBLED", x.doubled(2, 2), GliderHouse.OUTSIDE);
        Check.refused(x, "UNKNOWN ahead of OUTSIDE", x.doubled(2, 4), GliderHouse.UNKNOWN);
    }

    private static void doubledFull() {
        Check.about("Promise 22", "or both are one; FULL");
        GliderHouse x = new GliderHouse();
        x.trace();
        x.recorder(0, 0);
        x.recorder(1, 0);
        for (int i = 2; i <= 7; i++) {
            Check.due("doubled", x.doubled(0, 1), i);
        }
        Check.refused(x, "the 9th", x.doubled(0, 1), GliderHouse.FULL);
        Check.refused(x, "OUTSIDE ahead of FULL", x.doubled(0, 0), GliderHouse.OUTSIDE);
        Check.refused(x, "UNKNOWN ahead of FULL", x.doubled(0, 8), GliderHouse.UNKNOWN);
        Check.refused(x, "a RECORDER of a TRACE", x.recorder(0, 0), GliderHouse.FULL);
    }

    private static GliderHouse timed(long... moments) {
        GliderHouse x = Flights.still(moments.length, 10);
        for (int i = 0; i < moments.length; i++) {
            x.set(0, 0, Flights.MOMENTS, i, moments[i]);
        }
        x.recorder(Flights.PLAIN, 0);
        x.read(0);
        return x;
    }

    private static void kept(GliderHouse x, int recorder, int... want) {
        for (int k = 0; k < want.length; k++) {
            Check.due("KEPT " + k, x.reading(recorder, k, 6), want[k]);
        }
    }

    private static void lessThanASecond() {
        Check.about("Terms 2", "less than 1 s behind it");
        GliderHouse x = timed(100, 100, 101, 100, 99, 102);
        kept(x, 0, 1, 0, 1, 0, 0, 1);
        Flights.found(x, JUMP, 0, 1, JUMP, 0, 3, JUMP, 0, 4);
        Check.due("no REFUSALS", x.count(7), 0);
        GliderHouse y = timed(999999999999L, 0, 999999999999L);
        kept(y, 0, 1, 0, 0);
        GliderHouse z = timed(0, 1, 999999999999L);
        kept(z, 0, 1, 1, 1);
    }

    /** Two fixes on a meridian, the second this much further north and so many seconds behind. */
    private static GliderHouse northward(double latitude, int seconds, int jump) {
        GliderHouse x = Flights.flight(seconds, Flights.fix(0, 0), Flights.fix(0, latitude));
        x.setting(Flights.JUMP, jump);
        x.read(0);
        return x;
    }

    private static void justTheJump() {
        Check.about("Terms 2", "or by a WAY of more than JUMP metres for each second (JUMP times the seconds, as a double)");
        int told = 0;
        for (int jump = 1; jump <= 100; jump++) {
            double just = Flights.latitudeOf(jump);
            if (just == just) {
                told++;
                kept(northward(just, 1, jump), 0, 1, 1);
            }
            double beyond = Flights.latitudeBeyond(jump);
            GliderHouse x = northward(beyond, 1, jump);
            kept(x, 0, 1, 0);
            Flights.found(x, JUMP, 0, 1);
            kept(northward(Math.nextDown(beyond), 1, jump), 0, 1, 1);
        }
        Check.yes("a WAY of just JUMP metres was told", told > 0);
    }

    private static void jumpOverSeconds() {
        Check.about("Terms 2", "(JUMP times the seconds, as a double)");
        int[] seconds = {2, 7, 60, 1000};
        for (int s : seconds) {
            double beyond = Flights.latitudeBeyond(100.0 * s);
            kept(northward(beyond, s, 100), 0, 1, 0);
            kept(northward(Math.nextDown(beyond), s, 100), 0, 1, 1);
        }
        // JUMP times the seconds is far above any int, and above what a long's product by ints could be
        GliderHouse x = Flights.flight(10, Flights.fix(-180, 0), Flights.fix(180, 0));
        x.set(0, 0, Flights.MOMENTS, 0, 0);
        x.set(0, 0, Flights.MOMENTS, 1, 999999999999L);
        x.read(0);
        kept(x, 0, 1, 1);
    }

    private static void besideTheLatestKept() {
        Check.about("Terms 2", "KEPT are READINGS with a fix, but those that JUMP: in order, beside the one KEPT latest");
        double step = 90 / Flights.METRES;
        GliderHouse x = Flights.flight(1, Flights.fix(0, 0), Flights.fix(0, 10), Flights.fix(0, 2 * step), Flights.fix(Double.NaN, 0), Flights.fix(0, 5 * step));
        x.setting(Flights.JUMP, 90);
        x.read(0);
        // READING 2 is 180 m in 2 s from READING 0; READING 4 is 270 m in 2 s from READING 2
        kept(x, 0, 1, 0, 1, 0, 0);
        Flights.found(x, JUMP, 0, 1, 5, 0, 3, JUMP, 0, 4);
        Check.due("one that JUMPS has its fix", x.reading(0, 1, 9), 3);
    }

    private static void keptOverBlocks() {
        Check.about("Terms 2", "in order, beside the one KEPT latest");
        GliderHouse x = Flights.still(2, 10);
        x.fly(0, 2, 10, 0, 0, 0);
        x.set(0, 1, Flights.MOMENTS, 0, 20);
        x.recorder(Flights.PLAIN, 0);
        x.read(0);
        kept(x, 0, 1, 1, 0, 1);
        Flights.found(x, JUMP, 1, 0);
        // the first READING with a fix is KEPT wherever it is
        x.row(0, 0, Flights.FIXES, -1);
        x.read(0);
        kept(x, 0, 0, 0, 1, 1);
    }

    private static void jumpSettings() {
        Check.about("Promise 2", "1 JUMP (1 .. 100000)");
        kept(northward(1.5 / Flights.METRES, 1, 1), 0, 1, 0);
        kept(northward(0.5 / Flights.METRES, 1, 1), 0, 1, 1);
        kept(northward(99999 / Flights.METRES, 1, 100000), 0, 1, 1);
        kept(northward(100001 / Flights.METRES, 1, 100000), 0, 1, 0);
        GliderHouse x = northward(99999 / Flights.METRES, 1, 100000);
        x.setting(Flights.JUMP, 1);
        kept(x, 0, 1, 1);
        x.read(0);
        kept(x, 0, 1, 0);
    }

    /** TRACES 0 and 1 of n READINGS each, a PLAIN and a MOTOR one, and RECORDER 2 of both. */
    private static GliderHouse both(int n, int later) {
        GliderHouse x = Flights.still(n, 10);
        x.trace();
        x.here(1, later, 0, 0, Check.bits(5f));
        x.fly(1, n, 10, 0, 0, 0);
        x.recorder(Flights.PLAIN, 0);
        x.recorder(Flights.MOTOR, 1);
        x.doubled(0, 1);
        return x;
    }

    private static int readAll(GliderHouse x) {
        x.read(0);
        x.read(1);
        return x.read(2);
    }

    private static void doubledNoSameMoment() {
        Check.about("Terms 2", "has those of the second part's first READING of the same moment, if that has some");
        GliderHouse x = both(3, 5);
        x.row(0, 0, Flights.PRESSURES, -1);
        x.row(0, 0, Flights.FIXES, 2);
        Check.due("read", readAll(x), 3);
        int[] has = {1, 0, 0};
        for (int k = 0; k < 3; k++) {
            Check.due("READING " + k, x.reading(2, k, 9), has[k]);
        }
        Flights.found(x);
        kept(x, 2, 1, 0, 0);
        // the moments of the second part are 25, 35, 45: one of them only is the first part's
        x.set(0, 0, Flights.MOMENTS, 2, 25);
        readAll(x);
        Check.due("READING 2", x.reading(2, 2, 9), 7);
        Check.due("READING 1", x.reading(2, 1, 9), 0);
    }

    private static void doubledOfNothing() {
        Check.about("Terms 2", "A DOUBLED one has the READINGS of its first part, as that was read last");
        GliderHouse x = both(2, 0);
        x.row(1, 0, Flights.MOMENTS, 0);
        Check.due("a second part without READINGS", readAll(x), 2);
        Check.due("its own", x.reading(2, 0, 9), 3);
        x.row(1, 0, Flights.MOMENTS, 1);
        x.row(0, 0, Flights.MOMENTS, 0);
        Check.due("a first part without READINGS", readAll(x), 0);
        Check.due("status()", x.status(), 0);
        x.row(1, 0, Flights.MOMENTS, -1);
        Check.due("neither has any", readAll(x), 0);
        Flights.found(x);
        Check.refusedAs(x, "READING 0", x.reading(2, 0, 0), 0, GliderHouse.UNKNOWN);
    }

    private static void doubledFirstOfMoment() {
        Check.about("Terms 2", "the second part's first READING of the same moment, if that has some");
        GliderHouse x = both(3, 0);
        x.row(0, 0, Flights.FIXES, -1);
        for (int i = 0; i < 3; i++) {
            x.set(1, 0, Flights.MOMENTS, i, 20);
            x.set(1, 0, Flights.NOISES, i, 100 + i);
        }
        x.set(1, 0, Flights.FIXES, 0, Flights.NO_NUMBER);
        readAll(x);
        Check.due("the first one's noise", x.reading(2, 1, 4), 100);
        Check.due("the first one has no fix, later ones are not asked", x.reading(2, 1, 9), 6);
        Check.due("another moment", x.reading(2, 0, 9), 2);
        // both of a moment that the first part has twice are filled
        x.set(0, 0, Flights.MOMENTS, 2, 20);
        readAll(x);
        Check.due("the second of the moment", x.reading(2, 2, 4), 100);
    }

    private static void doubledPartByPart() {
        Check.about("Terms 2", "one without a fix, a pressure, a noise, a mark has those of the second part's first READING of the same moment");
        GliderHouse x = Flights.still(1, 10);
        x.trace();
        x.here(1, 0, Check.bits(3.0), Check.bits(4.0), Check.bits(5f));
        x.fly(1, 1, 10, 0, 0, 0);
        x.set(1, 0, Flights.NOISES, 0, 6);
        x.set(1, 0, Flights.MARKS, 0, 7);
        x.recorder(Flights.NET, 0);
        x.recorder(Flights.MOTOR, 1);
        x.doubled(0, 1);
        x.doubled(1, 0);
        x.read(0);
        x.read(1);
        x.read(2);
        Check.due("has all", x.reading(2, 0, 9), 15);
        Check.due("its own longitude", x.reading(2, 0, 1), 0);
        Check.due("its own pressure", x.reading(2, 0, 3), 0);
        Check.due("the other's noise", x.reading(2, 0, 4), 6);
        Check.due("its own mark", x.reading(2, 0, 5), 1);
        x.read(3);
        Check.due("has all", x.reading(3, 0, 9), 15);
        Check.due("its own longitude", x.reading(3, 0, 1), Check.bits(3.0));
        Check.due("its own latitude", x.reading(3, 0, 2), Check.bits(4.0));
        Check.due("its own pressure", x.reading(3, 0, 3), Check.bits(5f));
        Check.due("the other's mark, READ by a NET", x.reading(3, 0, 5), 1);
        x.row(0, 0, Flights.FIXES, 1);
        x.row(0, 0, Flights.PRESSURES, 0);
        x.read(0);
        x.read(2);
        Check.due("the other's longitude", x.reading(2, 0, 1), Check.bits(3.0));
        Check.due("the other's latitude", x.reading(2, 0, 2), Check.bits(4.0));
        Check.due("the other's pressure", x.reading(2, 0, 3), Check.bits(5f));
        Check.due("it is KEPT", x.reading(2, 0, 6), 1);
    }

    private static void doubledAsReadLast() {
        Check.about("Terms 2", "as that was read last");
        GliderHouse x = both(3, 0);
        readAll(x);
        x.row(0, 0, Flights.MOMENTS, 1);
        x.set(0, 0, Flights.MOMENTS, 0, 20);
        x.row(1, 0, Flights.NOISES, -1);
        Check.due("the parts were not READ again", x.read(2), 3);
        Check.due("has", x.reading(2, 0, 9), 7);
        x.read(0);
        Check.due("the DOUBLED one was not READ again", x.reading(2, 2, 9), 7);
        Check.due("READ again", x.read(2), 1);
        Check.due("has", x.reading(2, 0, 9), 7);
        x.read(1);
        x.read(2);
        Check.due("has no noise any more", x.reading(2, 0, 9), 3);
        x.setting(Flights.SHIFT, 1000);
        x.read(2);
        Check.due("SHIFT is of the parts", x.reading(2, 0, 0), 20);
    }

    private static void doubledBlocksAndItems() {
        Check.about("Terms 2", "What is KEPT is found anew, by BLOCKS and items of the first");
        GliderHouse x = Flights.still(2, 10);
        x.fly(0, 3, 10, 0, 0, 0);
        x.trace();
        x.here(1, 0, Check.bits(50.0), 0, 0);
        x.fly(1, 5, 10, 0, 0, 0);
        x.set(0, 1, Flights.FIXES, 2, Flights.NO_NUMBER);
        x.set(0, 0, Flights.MOMENTS, 0, -1);
        x.recorder(Flights.PLAIN, 0);
        x.recorder(Flights.PLAIN, 1);
        x.doubled(0, 1);
        Check.due("read", readAll(x), 4);
        // of the first part: BLOCK 0 item 1, BLOCK 1 items 0, 1, 2; BLOCK 1 item 1 is filled from far away
        Flights.found(x, JUMP, 1, 1);
        kept(x, 2, 1, 1, 0, 1);
        int[][] places = {{0, 1}, {1, 0}, {1, 1}, {1, 2}};
        for (int k = 0; k < 4; k++) {
            Check.due("BLOCK", x.reading(2, k, 7), places[k][0]);
            Check.due("item", x.reading(2, k, 8), places[k][1]);
        }
        Check.due("no REFUSALS", x.count(7), 0);
        x.setting(Flights.JUMP, 100000);
        x.set(0, 1, Flights.MOMENTS, 2, 1000);
        readAll(x);
        kept(x, 2, 1, 1, 0, 1);
        kept(x, 0, 1, 1, 0, 1);
    }

    private static void readUnknown() {
        Check.about("Promise 23", "It is READ: how many READINGS. UNKNOWN");
        GliderHouse x = Flights.still(1, 10);
        int[] none = {0, -1, 8, Integer.MIN_VALUE, Integer.MAX_VALUE};
        for (int r : none) {
            Check.refused(x, "read(" + r + ")", x.read(r), GliderHouse.UNKNOWN);
        }
        x.recorder(0, 0);
        Check.due("read(0)", x.read(0), 1);
        Check.refused(x, "read(1)", x.read(1), GliderHouse.UNKNOWN);
        GliderHouse y = Flights.still(192, 10);
        y.recorder(0, 0);
        Check.due("8 BLOCKS of 24", y.read(0), 192);
        Check.due("the last one", y.reading(0, 191, 0), 1920);
    }

    private static void readState() {
        Check.about("Promise 23", "STATE: a part of a DOUBLED one was not");
        GliderHouse x = both(2, 0);
        Check.refused(x, "neither was READ", x.read(2), GliderHouse.STATE);
        x.read(1);
        Check.refused(x, "the first was not", x.read(2), GliderHouse.STATE);
        GliderHouse y = both(2, 0);
        y.read(0);
        Check.refused(y, "the second was not", y.read(2), GliderHouse.STATE);
        Check.refusedAs(y, "and it is not READ", y.reading(2, 0, 0), 0, GliderHouse.STATE);
        y.read(1);
        Check.due("both were", y.read(2), 2);
    }

    /** A MOTOR's TRACE 0 that meets 24 REFUSALS a read, and a TRACE 1 of n READINGS that meets as many as told. */
    private static GliderHouse lossy(int refusals) {
        GliderHouse x = Flights.still(192, 10);
        for (int b = 0; b < 8; b++) {
            for (int kind = 1; kind <= 3; kind++) {
                x.row(0, b, kind, -1);
            }
        }
        x.trace();
        for (int b = 0; b < 8; b++) {
            x.fly(1, 2, 10, 0, 0, 0);
            for (int kind = 1; kind <= 3; kind++) {
                x.row(1, b, kind, 3 * b + kind <= refusals ? 0 : kind == Flights.FIXES ? 4 : 2);
            }
        }
        x.recorder(Flights.MOTOR, 0);
        x.recorder(Flights.MOTOR, 1);
        return x;
    }

    private static void readTimes(GliderHouse x, int times) {
        for (int i = 0; i < times; i++) {
            Check.due("read(0)", x.read(0), 192);
        }
    }

    private static void refusalsBelowTheLimit() {
        Check.about("Terms 2", "REFUSALS MET are all findings 1 to 3 ever: at 4000 reading ends at once (SPENT)");
        GliderHouse x = lossy(15);
        readTimes(x, 166);
        Check.due("MET", x.count(7), 3984);
        Check.due("the 3999th is not too many", x.read(1), 16);
        Check.due("status()", x.status(), 0);
        Check.due("MET", x.count(7), 3999);
        Check.due("findings", x.count(4), 15);
        Check.due("opened", x.count(5), 167 * 8);
        // nothing but a REFUSAL counts: a MOMENT, a FIX, a JUMP do not
        x.trace();
        x.fly(2, 4, 10, 0, 0, 0);
        x.set(2, 0, Flights.MOMENTS, 0, -1);
        x.set(2, 0, Flights.FIXES, 2, Flights.NO_NUMBER);
        x.set(2, 0, Flights.MOMENTS, 3, 5);
        x.recorder(Flights.PLAIN, 2);
        Check.due("read", x.read(2), 3);
        Flights.found(x, 4, 0, 0, 5, 0, 1, JUMP, 0, 3);
        Check.due("MET", x.count(7), 3999);
    }

    private static void refusalsAtTheLimit() {
        Check.about("Promise 23", "FULL: 4000 REFUSALS were MET; SPENT");
        GliderHouse x = lossy(16);
        x.read(1);
        readTimes(x, 165);
        Check.due("MET", x.count(7), 3976);
        Check.due("the first of it", x.finding(0, 0), LOST);
        x.read(1);
        Check.due("MET", x.count(7), 3992);
        Check.due("findings of the latest", x.count(4), 16);
        // 8 are left: the second of BLOCK 2 of TRACE 0 is the 4000th
        Check.refused(x, "the 4000th", x.read(0), GliderHouse.SPENT);
        Check.due("MET", x.count(7), 4000);
        Check.due("opened", x.count(5), 167 * 8 + 3);
        Check.due("closed", x.count(6), 167 * 8 + 3);
        Check.due("findings stay", x.count(4), 16);
        Check.due("findings stay", x.finding(0, 0), BEYOND);
        Check.due("what was READ before stays", x.reading(0, 191, 0), 1920);
    }

    private static void behindTheLimit() {
        Check.about("Promise 23", "STATE: a part of a DOUBLED one was not; FULL: 4000 REFUSALS were MET");
        GliderHouse x = lossy(16);
        x.trace();
        x.fly(2, 3, 10, 0, 0, Check.bits(1f));
        x.recorder(Flights.PLAIN, 2);
        x.recorder(Flights.NET, 2);
        x.doubled(0, 2);
        x.doubled(0, 3);
        x.read(2);
        readTimes(x, 166);
        Check.refused(x, "its very last finding is the 4000th", x.read(1), GliderHouse.SPENT);
        Check.due("MET", x.count(7), 4000);
        Check.refused(x, "FULL", x.read(0), GliderHouse.FULL);
        Check.refused(x, "of one that would meet none", x.read(2), GliderHouse.FULL);
        Check.refused(x, "of a DOUBLED one", x.read(4), GliderHouse.FULL);
        Check.refused(x, "STATE ahead of FULL", x.read(5), GliderHouse.STATE);
        Check.refused(x, "UNKNOWN ahead of FULL", x.read(6), GliderHouse.UNKNOWN);
        Check.due("MET", x.count(7), 4000);
        Check.due("opened", x.count(5), x.count(6));
        Check.refusedAs(x, "one that was SPENT is not READ", x.reading(1, 0, 0), 0, GliderHouse.STATE);
        Check.due("what was READ is told on", x.reading(2, 2, 0), 30);
        Check.due("and reckoned with", x.flown(2), 0);
        Check.due("judged", x.judge(2), 1);
        Check.due("differ", x.differ(2, 0), 0);
    }

    private static void spentInABlock() {
        Check.about("Terms 2", "at 4000 reading ends at once (SPENT), and what was READ before stays");
        GliderHouse x = lossy(15);
        readTimes(x, 166);
        x.read(1);
        x.trace();
        x.fly(2, 2, 10, 0, 0, 0);
        x.block(2);
        x.row(2, 0, Flights.PRESSURES, 1);
        x.recorder(Flights.PLAIN, 2);
        Check.refused(x, "the 4000th in BLOCK 0", x.read(2), GliderHouse.SPENT);
        Check.due("MET", x.count(7), 4000);
        Check.due("BLOCK 1 is not opened", x.count(5), 167 * 8 + 1);
        Check.due("BLOCK 0 is closed", x.count(6), 167 * 8 + 1);
    }

    private static void readingUnknown() {
        Check.about("Promise 24", "(STATUS: UNKNOWN for a RECORDER, READING, what)");
        GliderHouse x = timed(5, 6);
        int[] recorders = {-1, 1, 8, Integer.MAX_VALUE};
        for (int r : recorders) {
            Check.refusedAs(x, "RECORDER " + r, x.reading(r, 0, 0), 0, GliderHouse.UNKNOWN);
        }
        int[] readings = {-1, 2, 192, Integer.MIN_VALUE, Integer.MAX_VALUE};
        for (int k : readings) {
            Check.refusedAs(x, "READING " + k, x.reading(0, k, 0), 0, GliderHouse.UNKNOWN);
        }
        int[] whats = {-1, 10, Integer.MIN_VALUE, Integer.MAX_VALUE};
        for (int what : whats) {
            Check.refusedAs(x, "what " + what, x.reading(0, 0, what), 0, GliderHouse.UNKNOWN);
        }
        Check.due("what 0", x.reading(0, 1, 0), 6);
        Check.due("status()", x.status(), 0);
        Check.due("what 9", x.reading(0, 1, 9), 3);
        Check.due("status()", x.status(), 0);
    }

    private static void readingState() {
        Check.about("Terms answers", "STATE (the RECORDER was not READ; ahead of READINGS and of what is asked of them)");
        GliderHouse x = Flights.still(2, 10);
        x.recorder(0, 0);
        Check.refusedAs(x, "READING 0", x.reading(0, 0, 0), 0, GliderHouse.STATE);
        Check.refusedAs(x, "READING -1", x.reading(0, -1, 0), 0, GliderHouse.STATE);
        Check.refusedAs(x, "what 10", x.reading(0, 0, 10), 0, GliderHouse.STATE);
        Check.refusedAs(x, "no RECORDER", x.reading(1, -1, 10), 0, GliderHouse.UNKNOWN);
        GliderHouse y = new GliderHouse();
        y.trace();
        y.recorder(0, 0);
        y.read(0);
        Check.refusedAs(y, "READ, but without READINGS", y.reading(0, 0, 0), 0, GliderHouse.UNKNOWN);
    }

    private static void readingLacking() {
        Check.about("Promise 24", "0: there is no such thing (of 1 to 5 what it has not), STATE");
        GliderHouse x = Flights.still(1, 10);
        x.set(0, 0, Flights.NOISES, 0, 44);
        x.set(0, 0, Flights.MARKS, 0, 55);
        x.row(0, 0, Flights.FIXES, 0);
        x.row(0, 0, Flights.PRESSURES, 0);
        x.recorder(Flights.PLAIN, 0);
        x.read(0);
        for (int what = 1; what <= 6; what++) {
            Check.due("what " + what, x.reading(0, 0, what), 0);
            Check.due("status()", x.status(), 0);
        }
        Check.due("has nothing", x.reading(0, 0, 9), 0);
        Check.due("but a moment", x.reading(0, 0, 0), 10);
        // what an earlier read() had told of the same number does not stay
        GliderHouse y = Flights.flight(10, Flights.fix(7, 8));
        y.row(0, 0, Flights.FIXES, -1);
        y.read(0);
        y.read(0);
        Check.due("longitude", y.reading(0, 0, 1), 0);
        Check.due("latitude", y.reading(0, 0, 2), 0);
        Check.due("KEPT", y.reading(0, 0, 6), 0);
    }

    private static void findingsAtTheirEnds() {
        Check.about("Promise 25", "(the first 64 are kept)");
        GliderHouse x = Flights.still(66, 0);
        x.recorder(0, 0);
        Check.due("finding(0, 0) before any read()", x.finding(0, 0), GliderHouse.UNKNOWN);
        x.read(0);
        Check.due("count(4)", x.count(4), 65);
        Check.due("finding(0, 2)", x.finding(0, 2), 1);
        Check.due("finding(62, 2)", x.finding(62, 2), 63 % 24);
        Check.due("finding(63, 0)", x.finding(63, 0), JUMP);
        Check.due("finding(63, 1)", x.finding(63, 1), 64 / 24);
        Check.due("finding(63, 2)", x.finding(63, 2), 64 % 24);
        for (int what = 0; what < 3; what++) {
            Check.due("finding(64, " + what + ")", x.finding(64, what), GliderHouse.UNKNOWN);
        }
        int[] wrong = {-1, 65, Integer.MIN_VALUE, Integer.MAX_VALUE};
        for (int k : wrong) {
            Check.due("finding(" + k + ", 0)", x.finding(k, 0), GliderHouse.UNKNOWN);
        }
        int[] whats = {-1, 3, Integer.MIN_VALUE, Integer.MAX_VALUE};
        for (int what : whats) {
            Check.due("finding(0, " + what + ")", x.finding(0, what), GliderHouse.UNKNOWN);
        }
        Check.due("finding() leaves STATUS", x.status(), 0);
    }

    private static void findingsOfTheLatest() {
        Check.about("Promise 25", "Of finding k of the latest read() that was not refused");
        GliderHouse x = Flights.still(3, 0);
        x.recorder(0, 0);
        x.trace();
        x.recorder(0, 1);
        x.doubled(0, 1);
        x.read(0);
        Flights.found(x, JUMP, 0, 1, JUMP, 0, 2);
        x.read(2);
        x.read(9);
        Flights.found(x, JUMP, 0, 1, JUMP, 0, 2);
        x.read(1);
        Flights.found(x);
        x.read(2);
        Flights.found(x, JUMP, 0, 1, JUMP, 0, 2);
        x.row(0, 0, Flights.MOMENTS, -1);
        x.read(0);
        Flights.found(x, LOST, 0, -1);
    }
}
