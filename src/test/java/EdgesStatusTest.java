import java.util.ArrayList;
import java.util.List;

/** STATUS (promise 49), and that refused calls change nothing else: every call, refused and not. */
public final class EdgesStatusTest {
    private static final int UNKNOWN = GliderHouse.UNKNOWN, OUTSIDE = GliderHouse.OUTSIDE, STATE = GliderHouse.STATE, FULL = GliderHouse.FULL;
    private static final int NOT_THAT = GliderHouse.NOT_THAT, LOST = GliderHouse.LOST, BEYOND = GliderHouse.BEYOND, SIZE = GliderHouse.SIZE;

    private interface Call {
        long on(GliderHouse x);
    }

    private record Refused(String name, long answer, int status, Call call) {
    }

    public static void main(String[] args) {
        statusAtFirst();
        refusedCalls();
        refusedWhenFull();
        refusedWhenSpent();
        callsThatAreNotRefused();
        answersThatAreNoRefusals();
        callsThatLeaveStatus();
        latestCallCounts();
        spentStatus();
        Check.end("EdgesStatusTest");
    }

    /** Something of everything; RECORDERS 0 to 3 are READ (PLAIN, MOTOR, NET, DOUBLED), 4 to 6 are not. */
    private static GliderHouse rich() {
        GliderHouse x = new GliderHouse();
        x.setting(Flights.JUMP, 5000);
        x.setting(Flights.DIFFER, 20);
        Flights.lay(x, 1000f, 10f);
        Flights.lay(x, 800f, 2000f);
        x.ceiling(0, 2, 500);
        x.ceiling(3, 1, 600);
        for (int t = 0; t < 2; t++) {
            x.trace();
            x.here(t, 0, Check.bits(0.0), Check.bits(0.0001 * t), Check.bits(950f));
            x.fly(t, 4, 50, Check.bits(0.25), Check.bits(t == 0 ? 0.01 : 0.011), Check.bits(-10f));
            x.block(t);
        }
        x.row(0, 1, Flights.NOISES, 2);
        x.set(1, 0, Flights.NOISES, 2, 501);
        for (int kind = 0; kind < 3; kind++) {
            x.recorder(kind, kind % 2);
        }
        x.doubled(0, 1);
        for (int kind = 0; kind < 3; kind++) {
            x.recorder(kind, 1);
        }
        for (int r = 0; r < 4; r++) {
            x.read(r);
        }
        x.ground(0, 50);
        x.point(1, Check.bits(0.5), Check.bits(0.02), 1000, 0);
        x.point(2, Check.bits(0.75), Check.bits(0.03), 50000, 3);
        x.task(0);
        x.best(0);
        x.judge(1);
        x.differ(0, 1);
        x.export(0);
        return x;
    }

    /** The same, with no room for anything more. */
    private static GliderHouse full() {
        GliderHouse x = rich();
        for (int t = 2; t < 6; t++) {
            x.trace();
        }
        for (int b = 2; b < 8; b++) {
            x.block(0);
        }
        x.recorder(0, 1);
        for (int i = 2; i < 10; i++) {
            Flights.lay(x, 700f - i, 3000f);
        }
        for (int i = 2; i < 6; i++) {
            x.point(1, 0, 0, 10, 0);
        }
        return x;
    }

    /** The same, with 4000 REFUSALS MET by RECORDER 7 of a TRACE that is all LOST. */
    private static GliderHouse spent() {
        GliderHouse x = rich();
        x.trace();
        for (int b = 0; b < 8; b++) {
            x.fly(2, 1, 1, 0, 0, 0);
            for (int kind = 1; kind <= 3; kind++) {
                x.row(2, b, kind, -1);
            }
        }
        x.recorder(Flights.MOTOR, 2);
        for (int i = 0; i < 166; i++) {
            x.read(7);
        }
        x.read(7);
        return x;
    }

    /** All that can be asked, the calls that change something last. */
    private static List<Long> seen(GliderHouse x) {
        List<Long> all = new ArrayList<>();
        for (int i = 0; i < 10; i++) {
            all.add((long) x.count(i));
            all.add((long) x.out(i));
        }
        for (int i = 0; i < 7; i++) {
            all.add((long) x.corner(i));
            all.add(x.reached(i));
            all.add(x.cause(i, 0));
            all.add(x.cause(i, 1));
            all.add((long) x.finding(i, 0));
            all.add((long) x.finding(i, 2));
        }
        all.add(x.taskWay());
        for (int what = 0; what < 3; what++) {
            all.add(x.lacks(what));
        }
        for (int t = 0; t < 6; t++) {
            all.add(x.digest(t));
        }
        for (int r = 0; r < 8; r++) {
            for (int k = 0; k < 4; k++) {
                all.add(x.reading(r, k, 0));
                all.add(x.reading(r, k, 6));
                all.add(x.reading(r, k, 9));
            }
            all.add((long) x.height(r, 0));
            all.add(x.flown(r));
        }
        all.add((long) x.judge(0));
        all.add((long) x.task(0));
        all.add(x.taskWay());
        for (int t = 0; t < 3; t++) {
            all.add((long) x.fly(t, 1, 0, 0, 0, 0));
            all.add(x.digest(t));
        }
        for (int what = 0; what < 5; what++) {
            all.add((long) x.setting(what, 1));
        }
        all.add((long) x.lack(0));
        all.add((long) x.lack(3));
        all.add((long) x.clearTable());
        all.add((long) x.clearTask());
        return all;
    }

    /** Two houses made alike: the one that was asked what it refuses is seen as the other one is. */
    private static void changesNothing(Refused r, GliderHouse asked, GliderHouse other) {
        asked.size(0, 0, 0);
        other.size(0, 0, 0);
        Check.due("status() before " + r.name, asked.status(), 0);
        Check.due(r.name, r.call.on(asked), r.answer);
        Check.due("status() behind " + r.name, asked.status(), r.status);
        List<Long> here = seen(asked);
        List<Long> there = seen(other);
        for (int i = 0; i < here.size(); i++) {
            Check.due("answer " + i + " behind " + r.name, here.get(i), there.get(i));
        }
    }

    private static void statusAtFirst() {
        Check.about("Promise 49", "STATUS");
        GliderHouse x = new GliderHouse();
        Check.due("status()", x.status(), 0);
        Check.due("status() again", x.status(), 0);
    }

    private static void refusedCalls() {
        Check.about("Terms answers", "These change nothing but STATUS: the refusal (UNKNOWN .. SPENT) of the latest call");
        int none = Flights.NO_FLOAT;
        List<Refused> calls = new ArrayList<>();
        calls.add(new Refused("setting of no kind", -2000000000, OUTSIDE, x -> x.setting(5, 1)));
        calls.add(new Refused("setting", -2000000000, OUTSIDE, x -> x.setting(0, 0)));
        calls.add(new Refused("table", OUTSIDE, OUTSIDE, x -> x.table(none, 0)));
        calls.add(new Refused("table, too near", OUTSIDE, OUTSIDE, x -> Flights.lay(x, 799.5f, 0f)));
        calls.add(new Refused("ceiling", OUTSIDE, OUTSIDE, x -> x.ceiling(0, 2, 100001)));
        calls.add(new Refused("lack", OUTSIDE, OUTSIDE, x -> x.lack(7)));
        calls.add(new Refused("block", UNKNOWN, UNKNOWN, x -> x.block(2)));
        calls.add(new Refused("row UNKNOWN", UNKNOWN, UNKNOWN, x -> x.row(0, 0, 5, 1)));
        calls.add(new Refused("row OUTSIDE", OUTSIDE, OUTSIDE, x -> x.row(0, 0, 0, 25)));
        calls.add(new Refused("row SIZE", SIZE, SIZE, x -> x.row(0, 0, 0, -2)));
        calls.add(new Refused("set UNKNOWN", UNKNOWN, UNKNOWN, x -> x.set(0, 2, 0, 0, 1)));
        calls.add(new Refused("set LOST", LOST, LOST, x -> x.set(0, 1, 0, 0, 1)));
        calls.add(new Refused("set BEYOND", BEYOND, BEYOND, x -> x.set(0, 0, 0, 4, 1)));
        calls.add(new Refused("get UNKNOWN", 0, UNKNOWN, x -> x.get(2, 0, 0, 0)));
        calls.add(new Refused("get LOST", 0, LOST, x -> x.get(0, 1, 0, 0)));
        calls.add(new Refused("get BEYOND", 0, BEYOND, x -> x.get(0, 0, 0, -1)));
        calls.add(new Refused("size", UNKNOWN, UNKNOWN, x -> x.size(0, 2, 0)));
        calls.add(new Refused("here UNKNOWN", UNKNOWN, UNKNOWN, x -> x.here(2, 0, 0, 0, 0)));
        calls.add(new Refused("here OUTSIDE", OUTSIDE, OUTSIDE, x -> x.here(0, 5, 0, 0, none)));
        calls.add(new Refused("fly UNKNOWN", UNKNOWN, UNKNOWN, x -> x.fly(2, 1, 1, 0, 0, 0)));
        calls.add(new Refused("fly OUTSIDE", OUTSIDE, OUTSIDE, x -> x.fly(0, 3, 1, 0, 0, none)));
        calls.add(new Refused("export", UNKNOWN, UNKNOWN, x -> x.export(2)));
        calls.add(new Refused("alter UNKNOWN", UNKNOWN, UNKNOWN, x -> x.alter(-1, 1)));
        calls.add(new Refused("alter OUTSIDE", OUTSIDE, OUTSIDE, x -> x.alter(0, 256)));
        calls.add(new Refused("cut", OUTSIDE, OUTSIDE, x -> x.cut(-1)));
        calls.add(new Refused("digest", 0, UNKNOWN, x -> x.digest(2)));
        calls.add(new Refused("recorder OUTSIDE", OUTSIDE, OUTSIDE, x -> x.recorder(3, 0)));
        calls.add(new Refused("recorder UNKNOWN", UNKNOWN, UNKNOWN, x -> x.recorder(0, 2)));
        calls.add(new Refused("doubled UNKNOWN", UNKNOWN, UNKNOWN, x -> x.doubled(0, 7)));
        calls.add(new Refused("doubled OUTSIDE", OUTSIDE, OUTSIDE, x -> x.doubled(0, 3)));
        calls.add(new Refused("read UNKNOWN", UNKNOWN, UNKNOWN, x -> x.read(7)));
        calls.add(new Refused("reading UNKNOWN", 0, UNKNOWN, x -> x.reading(0, 4, 0)));
        calls.add(new Refused("reading STATE", 0, STATE, x -> x.reading(4, 0, 0)));
        calls.add(new Refused("ground UNKNOWN", UNKNOWN, UNKNOWN, x -> x.ground(7, 100)));
        calls.add(new Refused("ground STATE", STATE, STATE, x -> x.ground(4, 100)));
        calls.add(new Refused("height UNKNOWN", 0, UNKNOWN, x -> x.height(0, 4)));
        calls.add(new Refused("height STATE", 0, STATE, x -> x.height(4, 0)));
        calls.add(new Refused("way UNKNOWN", 0, UNKNOWN, x -> x.way(0, 0, 4)));
        calls.add(new Refused("way STATE", 0, STATE, x -> x.way(4, 0, 0)));
        calls.add(new Refused("glide UNKNOWN", 0, UNKNOWN, x -> x.glide(7, 0, 0)));
        calls.add(new Refused("glide STATE", 0, STATE, x -> x.glide(4, 0, 0)));
        calls.add(new Refused("compare UNKNOWN", UNKNOWN, UNKNOWN, x -> x.compare(0, 0, 1, 0, 4)));
        calls.add(new Refused("compare STATE", STATE, STATE, x -> x.compare(4, 0, 1, 0, 1)));
        calls.add(new Refused("bestGlide UNKNOWN", UNKNOWN, UNKNOWN, x -> x.bestGlide(7)));
        calls.add(new Refused("bestGlide STATE", STATE, STATE, x -> x.bestGlide(4)));
        calls.add(new Refused("flown UNKNOWN", 0, UNKNOWN, x -> x.flown(7)));
        calls.add(new Refused("flown STATE", 0, STATE, x -> x.flown(4)));
        calls.add(new Refused("best UNKNOWN", 0, UNKNOWN, x -> x.best(7)));
        calls.add(new Refused("best STATE", 0, STATE, x -> x.best(4)));
        calls.add(new Refused("bound UNKNOWN", 0, UNKNOWN, x -> x.bound(7)));
        calls.add(new Refused("bound STATE", 0, STATE, x -> x.bound(4)));
        calls.add(new Refused("point", OUTSIDE, OUTSIDE, x -> x.point(1, 0, 0, 0, 0)));
        calls.add(new Refused("point, a LINE", OUTSIDE, OUTSIDE, x -> x.point(0, 0, 0, 0, 0)));
        calls.add(new Refused("task UNKNOWN", UNKNOWN, UNKNOWN, x -> x.task(7)));
        calls.add(new Refused("task STATE", STATE, STATE, x -> x.task(4)));
        calls.add(new Refused("judge UNKNOWN", UNKNOWN, UNKNOWN, x -> x.judge(7)));
        calls.add(new Refused("judge STATE", STATE, STATE, x -> x.judge(4)));
        calls.add(new Refused("engine UNKNOWN", UNKNOWN, UNKNOWN, x -> x.engine(7)));
        calls.add(new Refused("engine NOT THAT", NOT_THAT, NOT_THAT, x -> x.engine(0)));
        calls.add(new Refused("engine STATE", STATE, STATE, x -> x.engine(5)));
        calls.add(new Refused("marks UNKNOWN", UNKNOWN, UNKNOWN, x -> x.marks(7, 1)));
        calls.add(new Refused("marks NOT THAT", NOT_THAT, NOT_THAT, x -> x.marks(1, 1)));
        calls.add(new Refused("marks STATE", STATE, STATE, x -> x.marks(6, 1)));
        calls.add(new Refused("part UNKNOWN", UNKNOWN, UNKNOWN, x -> x.part(7, 0)));
        calls.add(new Refused("part OUTSIDE", OUTSIDE, OUTSIDE, x -> x.part(3, 2)));
        calls.add(new Refused("part NOT THAT", NOT_THAT, NOT_THAT, x -> x.part(2, 0)));
        calls.add(new Refused("differ UNKNOWN", UNKNOWN, UNKNOWN, x -> x.differ(1, 7)));
        calls.add(new Refused("differ STATE", STATE, STATE, x -> x.differ(1, 4)));
        for (Refused r : calls) {
            changesNothing(r, rich(), rich());
        }
    }

    private static void refusedWhenFull() {
        Check.about("Terms answers", "These change nothing but STATUS: the refusal (UNKNOWN .. SPENT) of the latest call");
        List<Refused> calls = new ArrayList<>();
        calls.add(new Refused("table", FULL, FULL, x -> Flights.lay(x, 5f, 5f)));
        calls.add(new Refused("trace", FULL, FULL, x -> x.trace()));
        calls.add(new Refused("block", FULL, FULL, x -> x.block(0)));
        calls.add(new Refused("fly", FULL, FULL, x -> x.fly(0, 2, 5, 0, 0, 0)));
        calls.add(new Refused("back", FULL, FULL, x -> x.back()));
        calls.add(new Refused("recorder", FULL, FULL, x -> x.recorder(0, 0)));
        calls.add(new Refused("doubled", FULL, FULL, x -> x.doubled(0, 1)));
        calls.add(new Refused("point", FULL, FULL, x -> x.point(1, 0, 0, 5, 0)));
        for (Refused r : calls) {
            changesNothing(r, full(), full());
        }
    }

    private static void refusedWhenSpent() {
        Check.about("Terms answers", "These change nothing but STATUS: the refusal (UNKNOWN .. SPENT) of the latest call");
        changesNothing(new Refused("read FULL", FULL, FULL, x -> x.read(0)), spent(), spent());
        changesNothing(new Refused("read FULL of a DOUBLED one", FULL, FULL, x -> x.read(3)), spent(), spent());
        changesNothing(new Refused("read FULL of one not READ", FULL, FULL, x -> x.read(4)), spent(), spent());
    }

    private static void callsThatAreNotRefused() {
        Check.about("Terms answers", "of the latest call, 0 if it had none");
        List<Call> calls = new ArrayList<>();
        calls.add(x -> x.setting(0, 60));
        calls.add(x -> Flights.lay(x, 500f, 5000f));
        calls.add(x -> x.clearTable());
        calls.add(x -> x.ceiling(1, 1, 1));
        calls.add(x -> x.lack(1));
        calls.add(x -> x.trace());
        calls.add(x -> x.block(0));
        calls.add(x -> x.row(0, 1, 0, 3));
        calls.add(x -> x.set(0, 0, 0, 0, 5));
        calls.add(x -> x.get(0, 0, 0, 0));
        calls.add(x -> x.size(0, 0, 0));
        calls.add(x -> x.here(0, 0, 0, 0, 0));
        calls.add(x -> x.fly(0, 1, 1, 0, 0, 0));
        calls.add(x -> x.export(0));
        calls.add(x -> x.alter(0, 0));
        calls.add(x -> x.cut(x.count(8)));
        calls.add(x -> x.back());
        calls.add(x -> x.digest(0));
        calls.add(x -> x.recorder(0, 0));
        calls.add(x -> x.doubled(0, 1));
        calls.add(x -> x.read(0));
        calls.add(x -> x.reading(0, 0, 0));
        calls.add(x -> x.ground(0, 50));
        calls.add(x -> x.height(0, 0));
        calls.add(x -> x.way(0, 0, 1));
        calls.add(x -> x.glide(0, 0, 1));
        calls.add(x -> x.compare(0, 0, 1, 1, 2));
        calls.add(x -> x.bestGlide(0));
        calls.add(x -> x.flown(0));
        calls.add(x -> x.best(0));
        calls.add(x -> x.bound(0));
        calls.add(x -> x.point(1, 0, 0, 5, 0));
        calls.add(x -> x.clearTask());
        calls.add(x -> x.task(0));
        calls.add(x -> x.judge(0));
        calls.add(x -> x.engine(1));
        calls.add(x -> x.marks(2, 1));
        calls.add(x -> x.part(3, 0));
        calls.add(x -> x.differ(0, 1));
        for (int i = 0; i < calls.size(); i++) {
            GliderHouse x = rich();
            x.lack(7);
            Check.due("status() before call " + i, x.status(), OUTSIDE);
            calls.get(i).on(x);
            Check.due("status() behind call " + i, x.status(), 0);
        }
    }

    private static void answersThatAreNoRefusals() {
        Check.about("Terms answers", "the refusal (UNKNOWN .. SPENT) of the latest call, 0 if it had none");
        List<Call> calls = new ArrayList<>();
        List<Long> answers = new ArrayList<>();
        calls.add(x -> x.size(0, 1, 0));
        answers.add((long) GliderHouse.NONE);
        calls.add(x -> x.ground(0, 51));
        answers.add((long) GliderHouse.NONE);
        calls.add(x -> x.back());
        answers.add(-100L);
        calls.add(x -> x.compare(0, 0, 0, 0, 1));
        answers.add(2L);
        calls.add(x -> x.glide(0, 0, 0));
        answers.add((long) Flights.NO_FLOAT);
        calls.add(x -> x.reading(0, 0, 4));
        answers.add(0L);
        calls.add(x -> x.get(0, 1, Flights.NOISES, 0));
        answers.add(0L);
        for (int i = 0; i < calls.size(); i++) {
            GliderHouse x = rich();
            x.alter(0, 1);
            x.lack(7);
            Check.due("call " + i, calls.get(i).on(x), answers.get(i));
            Check.due("status() behind call " + i, x.status(), 0);
        }
        GliderHouse x = rich();
        x.clearTable();
        x.lack(7);
        Check.due("bestGlide(0)", x.bestGlide(0), GliderHouse.NONE);
        Check.due("status()", x.status(), 0);
        x.row(1, 0, Flights.NOISES, -1);
        x.read(1);
        x.lack(7);
        Check.due("engine(1)", x.engine(1), GliderHouse.NONE);
        Check.due("status()", x.status(), 0);
    }

    private static void callsThatLeaveStatus() {
        Check.about("Terms answers", "out(), finding(), corner(), reached(), taskWay(), cause(), lacks(), count(), status() leave it");
        List<Call> calls = new ArrayList<>();
        int[] numbers = {-1, 0, 1, 99999};
        for (int k : numbers) {
            calls.add(x -> x.out(k));
            calls.add(x -> x.finding(k, 0));
            calls.add(x -> x.finding(0, k));
            calls.add(x -> x.corner(k));
            calls.add(x -> x.reached(k));
            calls.add(x -> x.cause(k, 0));
            calls.add(x -> x.cause(0, k));
            calls.add(x -> x.lacks(k));
            calls.add(x -> x.count(k));
        }
        calls.add(x -> x.taskWay());
        calls.add(x -> x.status());
        List<Refused> before = new ArrayList<>();
        before.add(new Refused("0", 1, 0, x -> x.ceiling(0, 0, 1)));
        before.add(new Refused("UNKNOWN", UNKNOWN, UNKNOWN, x -> x.block(9)));
        before.add(new Refused("OUTSIDE", OUTSIDE, OUTSIDE, x -> x.lack(7)));
        before.add(new Refused("STATE", STATE, STATE, x -> x.task(4)));
        before.add(new Refused("LOST", 0, LOST, x -> x.get(0, 1, 0, 0)));
        before.add(new Refused("BEYOND", 0, BEYOND, x -> x.get(0, 0, 0, 9)));
        before.add(new Refused("NOT THAT", NOT_THAT, NOT_THAT, x -> x.engine(0)));
        before.add(new Refused("SIZE", SIZE, SIZE, x -> x.row(0, 0, 0, -9)));
        for (Refused b : before) {
            GliderHouse x = rich();
            Check.due(b.name, b.call.on(x), b.answer);
            for (int i = 0; i < calls.size(); i++) {
                calls.get(i).on(x);
                Check.due("status() " + b.name + " behind call " + i, x.status(), b.status);
            }
        }
    }

    private static void latestCallCounts() {
        Check.about("Terms answers", "STATUS: the refusal (UNKNOWN .. SPENT) of the latest call");
        GliderHouse x = rich();
        x.lack(7);
        x.block(9);
        Check.due("the later refusal", x.status(), UNKNOWN);
        x.get(0, 1, 0, 0);
        Check.due("the later refusal", x.status(), LOST);
        x.setting(9, 9);
        Check.due("the later refusal", x.status(), OUTSIDE);
        x.clearTask();
        Check.due("none", x.status(), 0);
    }

    private static void spentStatus() {
        Check.about("Terms 2", "at 4000 reading ends at once (SPENT)");
        GliderHouse x = spent();
        Check.due("REFUSALS MET", x.count(7), 4000);
        Check.due("status()", x.status(), GliderHouse.SPENT);
        x.finding(0, 0);
        x.count(7);
        Check.due("left", x.status(), GliderHouse.SPENT);
        Check.refused(x, "read", x.read(7), FULL);
        Check.due("another call", x.reading(7, 0, 0), 1);
        Check.due("status()", x.status(), 0);
    }
}
