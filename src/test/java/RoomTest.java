import java.lang.management.ManagementFactory;

/** Calls must not make anything but the room of new TRACES, RECORDERS and READINGS: a run has one room for all of it. */
public final class RoomTest {
    private static final com.sun.management.ThreadMXBean BEAN = (com.sun.management.ThreadMXBean) ManagementFactory.getThreadMXBean();
    private static final long ID = Thread.currentThread().getId();

    public static void main(String[] args) {
        GliderHouse warm = full();
        dear(warm);
        long before = BEAN.getThreadAllocatedBytes(ID);
        GliderHouse x = full();
        long made = BEAN.getThreadAllocatedBytes(ID) - before;
        Check.yes("a full house needs " + made + " bytes", made < 400000);
        dear(x);
        before = BEAN.getThreadAllocatedBytes(ID);
        for (int i = 0; i < 10; i++) {
            dear(x);
        }
        long more = BEAN.getThreadAllocatedBytes(ID) - before;
        Check.yes("calls make nothing, but made " + more + " bytes", more < 4096);
        Check.end("RoomTest");
    }

    /** Six TRACES of eight full BLOCKS, eight RECORDERS, all READ. */
    private static GliderHouse full() {
        GliderHouse x = new GliderHouse();
        x.setting(1, 100000);
        for (int t = 0; t < 6; t++) {
            x.trace();
            for (int b = 0; b < 8; b++) {
                x.fly(t, 24, 10, Check.bits(0.001), Check.bits(0.0005), 0);
            }
        }
        for (int r = 0; r < 7; r++) {
            x.recorder(r % 3, r % 6);
            x.read(r);
        }
        x.doubled(0, 1);
        x.read(7);
        x.table(Check.bits(1000f), 0);
        x.table(0, Check.bits(9000f));
        x.point(2, 0, 0, 100000, 0);
        x.point(0, 0, 0, Check.bits(1.0), Check.bits(1.0));
        return x;
    }

    private static void dear(GliderHouse x) {
        x.export(0);
        x.back();
        x.digest(1);
        x.row(0, 0, 2, 24);
        for (int r = 0; r < 8; r++) {
            x.read(r);
            x.best(r);
            x.bound(r);
            x.flown(r);
            x.task(r);
            x.judge(r);
            x.bestGlide(r);
            x.ground(r, 100);
            x.differ(r, 7 - r);
            x.engine(r);
            x.marks(r, 1);
            x.reading(r, 5, 1);
        }
    }
}
