/** The edges of CAUSES (part 5 of "Terms") and of promises 41 to 48. */
public final class EdgesJudgeTest {
    private static final int GAP = 1, ENGINE = 2, MARK = 3, CEILING = 4, UNKNOWN = 5, NO_HEIGHT = 6, JUMP = 7;
    private static final long LATEST = 999999999999L;

    public static void main(String[] args) {
        judgeRefused();
        judgeOfFew();
        gapSeconds();
        gapEarlier();
        gapOfAnyReading();
        engineNoise();
        marksBelowZero();
        ceilingHeight();
        ceilingNone();
        ceilingOfKept();
        places();
        placesJustBeside();
        days();
        noHeight();
        jump();
        firstReadingThatIsSo();
        causesInOrder();
        causeAtItsEnds();
        engineAtItsEnds();
        engineNone();
        engineRefused();
        marksAtTheirEnds();
        marksRefused();
        partAtItsEnds();
        differAtItsEnds();
        differSameMoment();
        differOfAll();
        differRefused();
        lacksAtTheirEnds();
        lacksOfTheLatest();
        countsAtTheirEnds();
        Check.end("EdgesJudgeTest");
    }

    /** n READINGS 10 s apart at one place and 1000 m, RECORDERS PLAIN, MOTOR, NET; a ceiling of 1000 m everywhere. */
    private static GliderHouse house(int n) {
        GliderHouse x = new GliderHouse();
        x.trace();
        x.here(0, 0, Check.bits(10.0), Check.bits(47.0), Check.bits(900f));
        x.fly(0, n, 10, 0, 0, 0);
        Flights.lay(x, 1000f, 0f);
        Flights.lay(x, 800f, 2000f);
        for (int day = 0; day <= 6; day++) {
            for (int place = 0; place <= 3; place++) {
                x.ceiling(day, place, 1000);
            }
        }
        for (int kind = 0; kind < 3; kind++) {
            x.recorder(kind, 0);
        }
        return x;
    }

    private static void causes(GliderHouse x, int recorder, long... want) {
        x.read(recorder);
        Check.due("judge(" + recorder + ")", x.judge(recorder), want.length / 2);
        Check.due("status()", x.status(), 0);
        for (int i = 0; i < want.length; i++) {
            Check.due("cause(" + i / 2 + ", " + i % 2 + ")", x.cause(i / 2, i % 2), want[i]);
        }
        Check.due("cause behind", x.cause(want.length / 2, 0), GliderHouse.UNKNOWN);
    }

    private static void judgeRefused() {
        Check.about("Promise 41", "It is judged: how many CAUSES there are. UNKNOWN; STATE");
        GliderHouse x = house(2);
        x.setting(Flights.GAP, 9);
        causes(x, 0, GAP, 10);
        int[] unknown = {-1, 3, 8, Integer.MIN_VALUE};
        for (int r : unknown) {
            Check.refused(x, "judge(" + r + ")", x.judge(r), GliderHouse.UNKNOWN);
        }
        Check.refused(x, "not READ", x.judge(1), GliderHouse.STATE);
        Check.due("CAUSES stay", x.cause(0, 0), GAP);
    }

    private static void judgeOfFew() {
        Check.about("Promise 41", "It is judged: how many CAUSES there are");
        GliderHouse none = new GliderHouse();
        none.trace();
        none.recorder(0, 0);
        causes(none, 0);
        causes(house(1), 0);
        causes(house(1), 1);
        causes(house(1), 2);
        GliderHouse bare = new GliderHouse();
        bare.trace();
        bare.fly(0, 1, 10, 0, 0, 0);
        bare.recorder(0, 0);
        causes(bare, 0, NO_HEIGHT, 10);
    }

    private static void gapSeconds() {
        Check.about("Terms 5", "1 GAP: the next one is more than GAP seconds later, or earlier");
        int[] gaps = {1, 60, 100000};
        for (int gap : gaps) {
            GliderHouse x = house(3);
            x.setting(Flights.GAP, gap);
            x.set(0, 0, Flights.MOMENTS, 0, 0);
            x.set(0, 0, Flights.MOMENTS, 1, gap);
            x.set(0, 0, Flights.MOMENTS, 2, 2L * gap);
            causes(x, 0);
            x.set(0, 0, Flights.MOMENTS, 2, 2L * gap + 1);
            causes(x, 0, GAP, gap);
            x.set(0, 0, Flights.MOMENTS, 1, gap + 1);
            causes(x, 0, GAP, 0);
        }
        GliderHouse y = house(2);
        y.set(0, 0, Flights.MOMENTS, 0, 0);
        y.set(0, 0, Flights.MOMENTS, 1, LATEST);
        causes(y, 0, GAP, 0);
    }

    private static void gapEarlier() {
        Check.about("Terms 5", "1 GAP: the next one is more than GAP seconds later, or earlier");
        GliderHouse x = house(3);
        x.set(0, 0, Flights.MOMENTS, 2, 20);
        causes(x, 0, JUMP, 20);
        x.set(0, 0, Flights.MOMENTS, 2, 19);
        causes(x, 0, GAP, 20, JUMP, 19);
        x.set(0, 0, Flights.MOMENTS, 2, 0);
        causes(x, 0, GAP, 20, JUMP, 0);
    }

    private static void gapOfAnyReading() {
        Check.about("Terms 5", "each with the moment of the first READING that is so");
        GliderHouse x = house(3);
        x.setting(Flights.GAP, 10);
        Flights.put(x, 1, Flights.fix(181, 0));
        causes(x, 0);
        // one that is no READING is not there
        x.set(0, 0, Flights.MOMENTS, 1, -1);
        causes(x, 0, GAP, 10);
    }

    private static void engineNoise() {
        Check.about("Terms 5", "2 ENGINE: a noise above NOISE");
        int[][] noises = {{500, 501}, {Integer.MIN_VALUE, Integer.MIN_VALUE + 1}, {-1, 0}, {Integer.MAX_VALUE - 1, Integer.MAX_VALUE}};
        for (int[] n : noises) {
            GliderHouse x = house(2);
            x.setting(Flights.NOISE, n[0]);
            for (int i = 0; i < 2; i++) {
                x.set(0, 0, Flights.NOISES, i, n[0]);
            }
            causes(x, 1);
            x.set(0, 0, Flights.NOISES, 1, n[1]);
            causes(x, 1, ENGINE, 20);
            causes(x, 0);
            causes(x, 2);
        }
        GliderHouse y = house(2);
        y.setting(Flights.NOISE, Integer.MAX_VALUE);
        y.set(0, 0, Flights.NOISES, 0, Integer.MAX_VALUE);
        causes(y, 1);
        y.row(0, 0, Flights.NOISES, -1);
        y.setting(Flights.NOISE, Integer.MIN_VALUE);
        causes(y, 1);
    }

    private static void marksBelowZero() {
        Check.about("Terms 5", "3 MARK: a mark below 0");
        GliderHouse x = house(3);
        x.set(0, 0, Flights.MARKS, 0, 1);
        x.set(0, 0, Flights.MARKS, 1, 127);
        causes(x, 2);
        x.set(0, 0, Flights.MARKS, 1, -1);
        causes(x, 2, MARK, 20);
        x.set(0, 0, Flights.MARKS, 1, 128);
        causes(x, 2, MARK, 20);
        causes(x, 0);
        causes(x, 1);
        x.set(0, 0, Flights.MARKS, 1, 0);
        x.set(0, 0, Flights.MARKS, 2, -1);
        causes(x, 2);
    }

    private static void ceilingHeight() {
        Check.about("Terms 5", "4 CEILING: KEPT, a HEIGHT above the ceiling of its day and place");
        GliderHouse x = house(2);
        causes(x, 0);
        x.ceiling(0, 2, 999);
        causes(x, 0, CEILING, 10);
        x.ceiling(0, 2, 1000);
        Flights.press(x, 1, Math.nextDown(900f));
        causes(x, 0, CEILING, 20);
        // the least and the greatest ceiling
        x.ceiling(0, 2, 100000);
        causes(x, 0);
        x.ceiling(0, 2, 0);
        Flights.press(x, 0, 1000f);
        Flights.press(x, 1, Math.nextDown(1000f));
        causes(x, 0, CEILING, 20);
        // GROUND counts
        Check.due("ground", x.ground(0, 20), 1);
        causes(x, 0);
    }

    private static void ceilingNone() {
        Check.about("Terms 5", "5 UNKNOWN: KEPT with a HEIGHT, and there is none");
        GliderHouse x = house(2);
        x.lack(0);
        causes(x, 0, UNKNOWN, 10);
        x.ceiling(0, 2, 0);
        causes(x, 0, CEILING, 10);
        x.lack(0);
        x.ceiling(0, 1, 1000);
        x.ceiling(0, 3, 1000);
        causes(x, 0, UNKNOWN, 10);
        Flights.press(x, 0, 100f);
        causes(x, 0, UNKNOWN, 20, NO_HEIGHT, 10);
    }

    private static void ceilingOfKept() {
        Check.about("Terms 5", "4 CEILING: KEPT");
        GliderHouse x = house(2);
        x.ceiling(0, 2, 0);
        x.set(0, 0, Flights.MOMENTS, 1, 10);
        Flights.press(x, 0, 1000f);
        causes(x, 0, JUMP, 10);
        Flights.put(x, 1, Flights.fix(181, 0));
        causes(x, 0);
        x.lack(0);
        causes(x, 0, UNKNOWN, 10);
        Flights.put(x, 0, Flights.fix(181, 0));
        causes(x, 0);
    }

    /** Held against one place alone: the ceiling of 1000 m holds there, every other place has one of 0 m. */
    private static void stands(double longitude, long moment, int day, int place) {
        GliderHouse x = house(1);
        Flights.put(x, 0, Flights.fix(longitude, 0));
        x.set(0, 0, Flights.MOMENTS, 0, moment);
        for (int d = 0; d <= 6; d++) {
            for (int p = 0; p <= 3; p++) {
                x.ceiling(d, p, d == day && p == place ? 1000 : 0);
            }
        }
        causes(x, 0);
        x.ceiling(day, place, 999);
        causes(x, 0, CEILING, moment);
        x.lack(day);
        causes(x, 0, UNKNOWN, moment);
    }

    private static void places() {
        Check.about("Terms 5", "the place 0 .. 3: 90 degrees each from longitude -180 on (180: 3)");
        stands(-180, 10, 0, 0);
        stands(-90, 10, 0, 1);
        stands(0, 10, 0, 2);
        stands(-0.0, 10, 0, 2);
        stands(90, 10, 0, 3);
        stands(180, 10, 0, 3);
    }

    private static void placesJustBeside() {
        Check.about("Terms 5", "the place 0 .. 3: 90 degrees each from longitude -180 on (180: 3)");
        stands(Math.nextUp(-180.0), 10, 0, 0);
        stands(Math.nextDown(-90.0), 10, 0, 0);
        stands(Math.nextUp(-90.0), 10, 0, 1);
        stands(-1e-9, 10, 0, 1);
        stands(-Double.MIN_VALUE, 10, 0, 1);
        stands(Double.MIN_VALUE, 10, 0, 2);
        stands(Math.nextDown(90.0), 10, 0, 2);
        stands(Math.nextUp(90.0), 10, 0, 3);
        stands(Math.nextDown(180.0), 10, 0, 3);
    }

    private static void days() {
        Check.about("Terms 5", "The day is its moment by 86400, cut, modulo 7");
        stands(10, 0, 0, 2);
        stands(10, 86399, 0, 2);
        stands(10, 86400, 1, 2);
        stands(10, 172799, 1, 2);
        stands(10, 172800, 2, 2);
        stands(10, 518400, 6, 2);
        stands(10, 604799, 6, 2);
        stands(10, 604800, 0, 2);
        stands(10, 691199, 0, 2);
        stands(10, 691200, 1, 2);
        stands(10, LATEST, (int) (LATEST / 86400 % 7), 2);
    }

    private static void noHeight() {
        Check.about("Terms 5", "6 NO HEIGHT (of any READING)");
        GliderHouse x = house(3);
        Flights.press(x, 2, Math.nextUp(1000f));
        causes(x, 0, NO_HEIGHT, 30);
        Flights.press(x, 2, 1000f);
        causes(x, 0);
        Flights.press(x, 1, Float.NaN);
        causes(x, 0, NO_HEIGHT, 20);
        // of one that is not KEPT, too
        Flights.put(x, 1, Flights.fix(181, 0));
        causes(x, 0, NO_HEIGHT, 20);
        x.row(0, 0, Flights.PRESSURES, -1);
        causes(x, 0, NO_HEIGHT, 10);
        GliderHouse y = house(1);
        y.clearTable();
        causes(y, 0, NO_HEIGHT, 10);
        Flights.lay(y, 900f, 0f);
        causes(y, 0, NO_HEIGHT, 10);
        Flights.lay(y, 899f, 0f);
        causes(y, 0);
    }

    private static void jump() {
        Check.about("Terms 5", "7 JUMP: it has a fix and is not KEPT");
        GliderHouse x = house(3);
        Flights.put(x, 1, Flights.fix(10, 48));
        causes(x, 0, JUMP, 20);
        Flights.put(x, 1, Flights.fix(10, 91));
        causes(x, 0);
        x.row(0, 0, Flights.FIXES, -1);
        causes(x, 0);
    }

    private static void firstReadingThatIsSo() {
        Check.about("Terms 5", "each with the moment of the first READING that is so");
        GliderHouse x = house(3);
        // moments 30, 20, 10: the first READING, not the earliest moment
        for (int i = 0; i < 3; i++) {
            x.set(0, 0, Flights.MOMENTS, i, 30 - 10 * i);
            x.set(0, 0, Flights.NOISES, i, 501);
            x.set(0, 0, Flights.MARKS, i, -1);
            Flights.press(x, i, 5f);
        }
        causes(x, 1, GAP, 30, ENGINE, 30, NO_HEIGHT, 30, JUMP, 20);
        causes(x, 2, GAP, 30, MARK, 30, NO_HEIGHT, 30, JUMP, 20);
        x.set(0, 0, Flights.MOMENTS, 0, 0);
        causes(x, 1, GAP, 20, ENGINE, 0, NO_HEIGHT, 0, JUMP, 10);
    }

    private static void causesInOrder() {
        Check.about("Terms 5", "CAUSES, by their numbers");
        GliderHouse x = house(8);
        x.setting(Flights.JUMP, 100000);
        x.trace();
        x.fly(1, 8, 10, 0, 0, 0);
        x.set(1, 0, Flights.NOISES, 5, 501);
        x.recorder(Flights.MOTOR, 1);
        x.doubled(2, 3);
        // a DOUBLED one of a NET and a MOTOR can have all seven, the last numbers first
        x.set(0, 0, Flights.MOMENTS, 1, 10);
        Flights.press(x, 2, 5f);
        Flights.put(x, 3, Flights.fix(-0.1, 47));
        x.lack(0);
        x.ceiling(0, 2, 1000);
        Flights.press(x, 4, 890f);
        x.set(0, 0, Flights.MARKS, 6, -1);
        x.set(0, 0, Flights.MOMENTS, 7, 900);
        x.read(2);
        x.read(3);
        causes(x, 4, GAP, 70, ENGINE, 60, MARK, 70, CEILING, 50, UNKNOWN, 40, NO_HEIGHT, 30, JUMP, 10);
    }

    private static void causeAtItsEnds() {
        Check.about("Promise 42", "Of CAUSE k of the latest judge(): what it is (0), the first moment (1). UNKNOWN");
        GliderHouse x = house(2);
        Check.due("before any judge()", x.cause(0, 0), GliderHouse.UNKNOWN);
        x.setting(Flights.GAP, 9);
        x.lack(0);
        causes(x, 0, GAP, 10, UNKNOWN, 10);
        int[] ks = {-1, 2, 7, Integer.MIN_VALUE, Integer.MAX_VALUE};
        for (int k : ks) {
            Check.due("cause(" + k + ", 0)", x.cause(k, 0), GliderHouse.UNKNOWN);
            Check.due("cause(" + k + ", 1)", x.cause(k, 1), GliderHouse.UNKNOWN);
        }
        int[] whats = {-1, 2, Integer.MIN_VALUE, Integer.MAX_VALUE};
        for (int what : whats) {
            Check.due("cause(0, " + what + ")", x.cause(0, what), GliderHouse.UNKNOWN);
        }
        Check.due("cause() leaves STATUS", x.status(), 0);
        x.setting(Flights.GAP, 10);
        x.read(0);
        Check.due("till the next judge()", x.cause(0, 0), GAP);
        x.judge(0);
        Check.due("of the latest judge()", x.cause(0, 0), UNKNOWN);
        Check.due("of the latest judge()", x.cause(1, 0), GliderHouse.UNKNOWN);
    }

    private static void engineAtItsEnds() {
        Check.about("Promise 43", "The greatest noise of a MOTOR that was READ");
        int[][] noises = {{0, 0, 0}, {-5, -3, -4}, {Integer.MIN_VALUE, Integer.MIN_VALUE, Integer.MIN_VALUE}, {1, Integer.MAX_VALUE, 2}, {7, 3, 5}, {3, 5, 7}};
        int[] greatest = {0, -3, Integer.MIN_VALUE, Integer.MAX_VALUE, 7, 7};
        for (int n = 0; n < noises.length; n++) {
            GliderHouse x = house(3);
            for (int i = 0; i < 3; i++) {
                x.set(0, 0, Flights.NOISES, i, noises[n][i]);
            }
            x.read(1);
            Check.due("engine(1)", x.engine(1), greatest[n]);
            Check.due("status()", x.status(), 0);
        }
        GliderHouse x = house(3);
        for (int i = 0; i < 3; i++) {
            x.set(0, 0, Flights.NOISES, i, -1);
        }
        x.read(1);
        Check.due("a noise that looks like NONE", x.engine(1), -1);
        // one that is not KEPT counts, too; one that is no READING does not
        x.set(0, 0, Flights.NOISES, 1, 9);
        x.set(0, 0, Flights.MOMENTS, 1, 10);
        x.read(1);
        Check.due("not KEPT", x.engine(1), 9);
        x.set(0, 0, Flights.MOMENTS, 1, -10);
        x.read(1);
        Check.due("no READING", x.engine(1), -1);
    }

    private static void engineNone() {
        Check.about("Promise 43", "NONE: it has none");
        GliderHouse x = house(3);
        x.row(0, 0, Flights.NOISES, -1);
        x.read(1);
        Check.due("NOISES LOST", x.engine(1), GliderHouse.NONE);
        Check.due("NONE is no refusal", x.status(), 0);
        x.row(0, 0, Flights.NOISES, 0);
        x.read(1);
        Check.due("NOISES of 0 items", x.engine(1), GliderHouse.NONE);
        x.row(0, 0, Flights.NOISES, 1);
        x.read(1);
        Check.due("NOISES of 1 item", x.engine(1), 0);
        x.row(0, 0, Flights.MOMENTS, 0);
        x.read(1);
        Check.due("no READINGS", x.engine(1), GliderHouse.NONE);
    }

    private static void engineRefused() {
        Check.about("Promise 43", "UNKNOWN; NOT THAT: it is no MOTOR; STATE");
        GliderHouse x = house(1);
        x.doubled(1, 2);
        int[] unknown = {-1, 4, 8, Integer.MAX_VALUE};
        for (int r : unknown) {
            Check.refused(x, "engine(" + r + ")", x.engine(r), GliderHouse.UNKNOWN);
        }
        Check.refused(x, "PLAIN, NOT THAT ahead of STATE", x.engine(0), GliderHouse.NOT_THAT);
        Check.refused(x, "NET", x.engine(2), GliderHouse.NOT_THAT);
        Check.refused(x, "DOUBLED", x.engine(3), GliderHouse.NOT_THAT);
        Check.refused(x, "a MOTOR, not READ", x.engine(1), GliderHouse.STATE);
        for (int r = 0; r < 4; r++) {
            x.read(r);
        }
        Check.refused(x, "PLAIN, READ", x.engine(0), GliderHouse.NOT_THAT);
        Check.refused(x, "DOUBLED, READ, with a noise", x.engine(3), GliderHouse.NOT_THAT);
        Check.due("a MOTOR, READ", x.engine(1), 0);
    }

    private static void marksAtTheirEnds() {
        Check.about("Promise 44", "How many marks of a NET that was READ are v");
        GliderHouse x = house(5);
        int[] marks = {127, -128, 1, 1, 0};
        for (int i = 0; i < 5; i++) {
            x.set(0, 0, Flights.MARKS, i, marks[i]);
        }
        x.read(2);
        int[][] want = {{127, 1}, {-128, 1}, {1, 2}, {0, 0}, {128, 0}, {-129, 0}, {255, 0}, {257, 0}, {Integer.MIN_VALUE, 0}, {Integer.MAX_VALUE, 0}};
        for (int[] w : want) {
            Check.due("marks(2, " + w[0] + ")", x.marks(2, w[0]), w[1]);
            Check.due("status()", x.status(), 0);
        }
        GliderHouse y = house(24);
        y.read(2);
        Check.due("24 marks", y.marks(2, 1), 24);
        y.row(0, 0, Flights.MOMENTS, 0);
        y.read(2);
        Check.due("no READINGS", y.marks(2, 1), 0);
    }

    private static void marksRefused() {
        Check.about("Promise 44", "UNKNOWN; NOT THAT: it is no NET; STATE");
        GliderHouse x = house(1);
        x.doubled(2, 1);
        int[] unknown = {-1, 4, 8, Integer.MIN_VALUE};
        for (int r : unknown) {
            Check.refused(x, "marks(" + r + ", 1)", x.marks(r, 1), GliderHouse.UNKNOWN);
        }
        Check.refused(x, "PLAIN, NOT THAT ahead of STATE", x.marks(0, 1), GliderHouse.NOT_THAT);
        Check.refused(x, "MOTOR", x.marks(1, 1), GliderHouse.NOT_THAT);
        Check.refused(x, "DOUBLED", x.marks(3, 1), GliderHouse.NOT_THAT);
        Check.refused(x, "a NET, not READ", x.marks(2, 1), GliderHouse.STATE);
        for (int r = 0; r < 4; r++) {
            x.read(r);
        }
        Check.refused(x, "DOUBLED, READ, with a mark", x.marks(3, 1), GliderHouse.NOT_THAT);
        Check.due("a NET, READ", x.marks(2, 1), 1);
    }

    private static void partAtItsEnds() {
        Check.about("Promise 45", "The number of a part (0, 1) of a DOUBLED one. UNKNOWN; OUTSIDE; NOT THAT: it is not DOUBLED");
        GliderHouse x = house(1);
        x.doubled(2, 0);
        Check.due("part(3, 0)", x.part(3, 0), 2);
        Check.due("part(3, 1)", x.part(3, 1), 0);
        Check.due("status()", x.status(), 0);
        int[] unknown = {-1, 4, 8, Integer.MAX_VALUE};
        for (int r : unknown) {
            Check.refused(x, "part(" + r + ", 0)", x.part(r, 0), GliderHouse.UNKNOWN);
            Check.refused(x, "UNKNOWN ahead of OUTSIDE", x.part(r, 2), GliderHouse.UNKNOWN);
        }
        int[] which = {-1, 2, Integer.MIN_VALUE, Integer.MAX_VALUE};
        for (int w : which) {
            Check.refused(x, "part(3, " + w + ")", x.part(3, w), GliderHouse.OUTSIDE);
            Check.refused(x, "OUTSIDE ahead of NOT THAT", x.part(0, w), GliderHouse.OUTSIDE);
        }
        for (int r = 0; r < 3; r++) {
            Check.refused(x, "part(" + r + ", 0)", x.part(r, 0), GliderHouse.NOT_THAT);
            Check.refused(x, "part(" + r + ", 1)", x.part(r, 1), GliderHouse.NOT_THAT);
        }
    }

    /** TRACES 0 and 1 flown alike from (0, 0), PLAIN RECORDERS 0 and 1 of them, READ. */
    private static GliderHouse both(int n) {
        GliderHouse x = new GliderHouse();
        for (int t = 0; t < 2; t++) {
            x.trace();
            x.fly(t, n, 10, 0, 0, 0);
            x.recorder(Flights.PLAIN, t);
            x.read(t);
        }
        return x;
    }

    private static void lacking(GliderHouse x, long first, long one, long two) {
        Check.due("lacks(0)", x.lacks(0), first);
        Check.due("lacks(1)", x.lacks(1), one);
        Check.due("lacks(2)", x.lacks(2), two);
    }

    private static void differAtItsEnds() {
        Check.about("Promise 46", "how many are by a WAY of more than DIFFER from the first KEPT one of the same moment of the other one");
        int told = 0;
        for (int differ = 0; differ <= 60; differ++) {
            GliderHouse x = both(2);
            x.setting(Flights.DIFFER, differ);
            double just = Flights.latitudeOf(differ);
            if (just == just) {
                told++;
                x.set(1, 0, Flights.FIXES, 3, Check.bits(just));
                x.read(1);
                Check.due("just DIFFER " + differ, x.differ(0, 1), 0);
            }
            x.set(1, 0, Flights.FIXES, 3, Check.bits(Flights.latitudeBeyond(differ)));
            x.read(1);
            Check.due("a little more than " + differ, x.differ(0, 1), 1);
            lacking(x, 20, 0, 0);
            Check.due("the other way", x.differ(1, 0), 1);
        }
        Check.yes("a WAY of just DIFFER was told", told > 1);
        GliderHouse x = both(1);
        x.setting(Flights.DIFFER, 1000000);
        x.set(1, 0, Flights.FIXES, 1, Check.bits(80.0));
        x.read(1);
        Check.due("far more than the greatest DIFFER", x.differ(0, 1), 1);
        x.set(1, 0, Flights.FIXES, 1, Check.bits(8.0));
        x.read(1);
        Check.due("less than the greatest DIFFER", x.differ(0, 1), 0);
    }

    private static void differSameMoment() {
        Check.about("Promise 46", "Of the KEPT fixes of one RECORDER");
        GliderHouse x = both(4);
        x.setting(Flights.JUMP, 100000);
        // of the moment 20 the other has two; the first is KEPT, the second JUMPS
        x.set(1, 0, Flights.MOMENTS, 2, 20);
        x.set(1, 0, Flights.FIXES, 5, Check.bits(1.0));
        x.read(1);
        Check.due("the KEPT one is the same", x.differ(0, 1), 0);
        lacking(x, GliderHouse.NONE, 1, 0);
        // one without a fix is not KEPT: there is none of its moment
        x.set(1, 0, Flights.FIXES, 1, Check.bits(91.0));
        x.read(1);
        Check.due("none of the moment 10", x.differ(0, 1), 0);
        lacking(x, GliderHouse.NONE, 2, 0);
        Check.due("with itself", x.differ(1, 1), 0);
        lacking(x, GliderHouse.NONE, 0, 0);
        GliderHouse y = both(2);
        y.row(0, 0, Flights.MOMENTS, 0);
        y.read(0);
        Check.due("none KEPT in the first", y.differ(0, 1), 0);
        lacking(y, GliderHouse.NONE, 0, 2);
        Check.due("none KEPT in the second", y.differ(1, 0), 0);
        lacking(y, GliderHouse.NONE, 2, 0);
        Check.due("none KEPT in either", y.differ(0, 0), 0);
        lacking(y, GliderHouse.NONE, 0, 0);
    }

    private static void differOfAll() {
        Check.about("Promise 46", "Of the KEPT fixes of one RECORDER");
        GliderHouse x = new GliderHouse();
        for (int t = 0; t < 2; t++) {
            x.trace();
            x.here(t, t, Check.bits(0.001 * t), 0, 0);
            for (int b = 0; b < 8; b++) {
                x.fly(t, 24, 10, 0, 0, 0);
            }
            x.recorder(Flights.PLAIN, t);
            x.recorder(Flights.PLAIN, 0);
            x.read(2 * t);
        }
        Check.due("192 moments of each that the other one lacks", x.differ(0, 2), 0);
        lacking(x, GliderHouse.NONE, 192, 192);
        Check.due("the other way", x.differ(2, 0), 0);
        lacking(x, GliderHouse.NONE, 192, 192);
        x.setting(Flights.SHIFT, 1);
        x.read(0);
        Check.due("all differ", x.differ(0, 2), 192);
        lacking(x, 11, 0, 0);
    }

    private static void differRefused() {
        Check.about("Promise 46", "UNKNOWN; STATE");
        GliderHouse x = both(1);
        x.recorder(0, 0);
        int[] unknown = {-1, 3, 8, Integer.MAX_VALUE};
        for (int r : unknown) {
            Check.refused(x, "differ(" + r + ", 0)", x.differ(r, 0), GliderHouse.UNKNOWN);
            Check.refused(x, "differ(0, " + r + ")", x.differ(0, r), GliderHouse.UNKNOWN);
            Check.refused(x, "UNKNOWN ahead of STATE", x.differ(2, r), GliderHouse.UNKNOWN);
            Check.refused(x, "UNKNOWN ahead of STATE", x.differ(r, 2), GliderHouse.UNKNOWN);
        }
        Check.refused(x, "the first was not READ", x.differ(2, 0), GliderHouse.STATE);
        Check.refused(x, "the second was not READ", x.differ(0, 2), GliderHouse.STATE);
        Check.refused(x, "one with itself, not READ", x.differ(2, 2), GliderHouse.STATE);
    }

    private static void lacksAtTheirEnds() {
        Check.about("Promise 47", "0 the first moment at which they do (NONE: none), 1, 2 how many KEPT ones of the first, the second one have none of the same moment in the other. UNKNOWN");
        GliderHouse x = both(3);
        lacking(x, GliderHouse.NONE, 0, 0);
        x.set(1, 0, Flights.MOMENTS, 0, 0);
        x.set(0, 0, Flights.MOMENTS, 0, 0);
        x.set(1, 0, Flights.FIXES, 0, Check.bits(0.001));
        x.read(0);
        x.read(1);
        x.differ(0, 1);
        lacking(x, 0, 0, 0);
        int[] whats = {-1, 3, Integer.MIN_VALUE, Integer.MAX_VALUE};
        for (int what : whats) {
            Check.due("lacks(" + what + ")", x.lacks(what), GliderHouse.UNKNOWN);
        }
        Check.due("lacks() leaves STATUS", x.status(), 0);
    }

    private static void lacksOfTheLatest() {
        Check.about("Promise 47", "Of the latest differ()");
        GliderHouse x = both(3);
        x.set(1, 0, Flights.MOMENTS, 0, 5);
        x.set(1, 0, Flights.FIXES, 3, Check.bits(0.001));
        x.read(1);
        x.setting(Flights.DIFFER, 100);
        Check.due("differ", x.differ(0, 1), 1);
        lacking(x, 20, 1, 1);
        x.differ(0, 5);
        x.read(0);
        lacking(x, 20, 1, 1);
        x.setting(Flights.DIFFER, 200);
        lacking(x, 20, 1, 1);
        Check.due("differ", x.differ(0, 1), 0);
        lacking(x, GliderHouse.NONE, 1, 1);
        Check.due("differ", x.differ(1, 1), 0);
        lacking(x, GliderHouse.NONE, 0, 0);
    }

    private static void countsAtTheirEnds() {
        Check.about("Promise 48", "9 ceilings told. OUTSIDE");
        GliderHouse x = house(2);
        x.point(1, 0, 0, 5, 0);
        x.row(0, 0, Flights.PRESSURES, -1);
        x.read(1);
        x.export(0);
        int[] want = {1, 3, 1, 2, 1, 1, 1, 1, 2 + 5 + 2 * 29 + 1, 28};
        for (int what = 0; what <= 9; what++) {
            Check.due("count(" + what + ")", x.count(what), want[what]);
        }
        int[] whats = {-1, 10, Integer.MIN_VALUE, Integer.MAX_VALUE};
        for (int what : whats) {
            Check.due("count(" + what + ")", x.count(what), GliderHouse.OUTSIDE);
        }
        Check.due("count() leaves STATUS", x.status(), 0);
    }
}
