/** The edges of TRACES (part 1 of "Terms") and of promises 7 to 20. */
public final class EdgesTracesTest {
    private static final int[] WIDTHS = {8, 8, 4, 4, 1};

    public static void main(String[] args) {
        tracesFull();
        tracesFullByBack();
        blocksUnknown();
        blocksFull();
        rowsLostAtFirst();
        rowsAtTheirEnds();
        rowsOutside();
        rowsOfNoSize();
        rowsUnknown();
        rowLaidAgain();
        refusedRowStays();
        itemsAtTheirEnds();
        itemsLost();
        itemsBeyond();
        itemsUnknown();
        bitsOfInts();
        bitsOfBytes();
        bitsOfLongs();
        sizes();
        Check.end("EdgesTracesTest");
    }

    private static GliderHouse oneBlock() {
        GliderHouse x = new GliderHouse();
        x.trace();
        x.block(0);
        return x;
    }

    private static void tracesFull() {
        Check.about("Promise 7", "A TRACE: its number. FULL");
        GliderHouse x = new GliderHouse();
        for (int i = 0; i <= 5; i++) {
            Check.due("trace()", x.trace(), i);
            Check.due("status()", x.status(), 0);
        }
        Check.refused(x, "the 7th", x.trace(), GliderHouse.FULL);
        Check.refused(x, "once more", x.trace(), GliderHouse.FULL);
        Check.due("count(0)", x.count(0), 6);
        Check.due("TRACE 5 is there", x.block(5), 0);
    }

    private static void tracesFullByBack() {
        Check.about("Terms 1", "TRACES 0 .. 5 have BLOCKS 0 .. 7");
        GliderHouse x = new GliderHouse();
        x.trace();
        x.export(0);
        for (int i = 1; i <= 5; i++) {
            Check.due("back()", x.back(), i);
        }
        Check.refused(x, "trace()", x.trace(), GliderHouse.FULL);
        Check.refused(x, "back()", x.back(), GliderHouse.FULL);
        Check.due("count(0)", x.count(0), 6);
    }

    private static void blocksUnknown() {
        Check.about("Promise 8", "A BLOCK more of a TRACE: its number. UNKNOWN");
        GliderHouse x = new GliderHouse();
        int[] none = {0, -1, 5, Integer.MIN_VALUE, Integer.MAX_VALUE};
        for (int trace : none) {
            Check.refused(x, "block(" + trace + ")", x.block(trace), GliderHouse.UNKNOWN);
        }
        for (int i = 0; i < 6; i++) {
            x.trace();
        }
        Check.refused(x, "block(6)", x.block(6), GliderHouse.UNKNOWN);
        Check.refused(x, "block(-1)", x.block(-1), GliderHouse.UNKNOWN);
        Check.due("block(0)", x.block(0), 0);
        Check.due("block(5)", x.block(5), 0);
    }

    private static void blocksFull() {
        Check.about("Promise 8", "its number. UNKNOWN; FULL");
        GliderHouse x = new GliderHouse();
        x.trace();
        x.trace();
        for (int i = 0; i <= 7; i++) {
            Check.due("a BLOCK by turns", i % 2 == 0 ? x.block(0) : x.fly(0, 1, 1, 0, 0, 0), i);
        }
        Check.refused(x, "the 9th", x.block(0), GliderHouse.FULL);
        Check.refused(x, "the 9th, flown", x.fly(0, 1, 1, 0, 0, 0), GliderHouse.FULL);
        Check.due("another TRACE's first", x.block(1), 0);
        Check.due("BLOCK 7 is there", x.size(0, 7, 0), 1);
        Check.refused(x, "BLOCK 8 is not", x.size(0, 8, 0), GliderHouse.UNKNOWN);
    }

    private static void rowsLostAtFirst() {
        Check.about("Terms 1", "A ROW is LOST (as at first)");
        GliderHouse x = oneBlock();
        for (int kind = 0; kind <= 4; kind++) {
            Check.due("size", x.size(0, 0, kind), GliderHouse.NONE);
            Check.refused(x, "set", x.set(0, 0, kind, 0, 1), GliderHouse.LOST);
        }
        // a TRACE's room that a back() failed to fill is as at first for the next one
        GliderHouse y = Flights.still(24, 1);
        int last = y.export(0) - 1;
        y.alter(last, 1);
        Check.due("back()", y.back(), -100 - last);
        y.trace();
        y.block(1);
        for (int kind = 0; kind <= 4; kind++) {
            Check.due("size", y.size(1, 0, kind), GliderHouse.NONE);
        }
    }

    private static void rowsAtTheirEnds() {
        Check.about("Promise 9", "A ROW has n items 0 (n = -1: it is LOST): 1");
        for (int kind = 0; kind <= 4; kind++) {
            GliderHouse x = oneBlock();
            int[] sizes = {0, 1, Flights.MOST[kind] - 1, Flights.MOST[kind], -1, 0, -1, -1};
            for (int n : sizes) {
                Check.due("row of " + n, x.row(0, 0, kind, n), 1);
                Check.due("status()", x.status(), 0);
                Check.due("size", x.size(0, 0, kind), n);
                Check.due("status()", x.status(), 0);
            }
        }
    }

    private static void rowsOutside() {
        Check.about("Promise 9", "OUTSIDE: n above 24 (48)");
        for (int kind = 0; kind <= 4; kind++) {
            GliderHouse x = oneBlock();
            int[] sizes = {Flights.MOST[kind] + 1, 49, 255, Integer.MAX_VALUE};
            for (int n : sizes) {
                Check.refused(x, "row of " + n, x.row(0, 0, kind, n), GliderHouse.OUTSIDE);
            }
            Check.due("size", x.size(0, 0, kind), GliderHouse.NONE);
        }
    }

    private static void rowsOfNoSize() {
        Check.about("Promise 9", "SIZE: n below -1");
        for (int kind = 0; kind <= 4; kind++) {
            GliderHouse x = oneBlock();
            x.row(0, 0, kind, 3);
            int[] sizes = {-2, -3, Integer.MIN_VALUE};
            for (int n : sizes) {
                Check.refused(x, "row of " + n, x.row(0, 0, kind, n), GliderHouse.SIZE);
            }
            Check.due("size", x.size(0, 0, kind), 3);
        }
    }

    private static void rowsUnknown() {
        Check.about("Promise 9", "UNKNOWN: TRACE, BLOCK, KIND");
        GliderHouse x = oneBlock();
        int[][] none = {{1, 0, 0}, {-1, 0, 0}, {6, 0, 0}, {0, 1, 0}, {0, -1, 0}, {0, 8, 0}, {0, 0, 5}, {0, 0, -1},
            {Integer.MAX_VALUE, 0, 0}, {0, Integer.MIN_VALUE, 0}, {0, 0, Integer.MAX_VALUE}};
        for (int[] u : none) {
            Check.refused(x, "row", x.row(u[0], u[1], u[2], 1), GliderHouse.UNKNOWN);
            Check.refused(x, "row, also above 48", x.row(u[0], u[1], u[2], 49), GliderHouse.UNKNOWN);
            Check.refused(x, "row, also below -1", x.row(u[0], u[1], u[2], -2), GliderHouse.UNKNOWN);
        }
    }

    private static void rowLaidAgain() {
        Check.about("Promise 9", "A ROW has n items 0");
        for (int kind = 0; kind <= 4; kind++) {
            GliderHouse x = oneBlock();
            int n = Flights.MOST[kind];
            x.row(0, 0, kind, n);
            for (int i = 0; i < n; i++) {
                x.set(0, 0, kind, i, 1);
            }
            x.row(0, 0, kind, 1);
            x.row(0, 0, kind, n);
            for (int i = 0; i < n; i++) {
                Check.due("item " + i, x.get(0, 0, kind, i), 0);
            }
            x.set(0, 0, kind, 0, 1);
            x.row(0, 0, kind, -1);
            x.row(0, 0, kind, 1);
            Check.due("behind a LOST one", x.get(0, 0, kind, 0), 0);
        }
    }

    private static void refusedRowStays() {
        Check.about("Terms answers", "These change nothing but STATUS");
        for (int kind = 0; kind <= 4; kind++) {
            GliderHouse x = oneBlock();
            x.row(0, 0, kind, 2);
            x.set(0, 0, kind, 1, 77);
            x.row(0, 0, kind, Flights.MOST[kind] + 1);
            x.row(0, 0, kind, -2);
            Check.due("size", x.size(0, 0, kind), 2);
            Check.due("item 1", x.get(0, 0, kind, 1), 77);
        }
    }

    private static void itemsAtTheirEnds() {
        Check.about("Promise 10", "Item i of a ROW by BITS: 1");
        for (int kind = 0; kind <= 4; kind++) {
            GliderHouse x = oneBlock();
            int n = Flights.MOST[kind];
            x.row(0, 0, kind, n);
            int[] places = {0, 1, n - 2, n - 1};
            for (int i : places) {
                Check.due("set", x.set(0, 0, kind, i, 5 + i), 1);
                Check.due("status()", x.status(), 0);
            }
            for (int i : places) {
                Check.due("get", x.get(0, 0, kind, i), 5 + i);
                Check.due("status()", x.status(), 0);
            }
            Check.due("one between", x.get(0, 0, kind, 2), 0);
        }
    }

    private static void itemsLost() {
        Check.about("Promise 10", "UNKNOWN; LOST; BEYOND");
        for (int kind = 0; kind <= 4; kind++) {
            GliderHouse x = oneBlock();
            int[] places = {0, -1, 24, 48, Integer.MIN_VALUE};
            for (int i : places) {
                Check.refused(x, "set, LOST ahead of BEYOND", x.set(0, 0, kind, i, 1), GliderHouse.LOST);
                Check.refusedAs(x, "get, LOST ahead of BEYOND", x.get(0, 0, kind, i), 0, GliderHouse.LOST);
            }
            Check.due("it stays LOST", x.size(0, 0, kind), GliderHouse.NONE);
            x.row(0, 0, kind, 1);
            x.row(0, 0, kind, -1);
            Check.refused(x, "LOST again", x.set(0, 0, kind, 0, 1), GliderHouse.LOST);
        }
    }

    private static void itemsBeyond() {
        Check.about("Promise 11", "UNKNOWN, LOST, BEYOND (0; STATUS tells)");
        for (int kind = 0; kind <= 4; kind++) {
            GliderHouse x = oneBlock();
            int[] sizes = {0, 1, Flights.MOST[kind]};
            for (int n : sizes) {
                x.row(0, 0, kind, n);
                int[] places = {-1, n, n + 1, Integer.MIN_VALUE, Integer.MAX_VALUE};
                for (int i : places) {
                    Check.refused(x, "set of " + i + " of " + n, x.set(0, 0, kind, i, 1), GliderHouse.BEYOND);
                    Check.refusedAs(x, "get of " + i + " of " + n, x.get(0, 0, kind, i), 0, GliderHouse.BEYOND);
                }
                for (int i = 0; i < n; i++) {
                    Check.due("no item was changed", x.get(0, 0, kind, i), 0);
                }
            }
        }
    }

    private static void itemsUnknown() {
        Check.about("Promise 11", "UNKNOWN, LOST, BEYOND (0; STATUS tells)");
        GliderHouse x = oneBlock();
        x.row(0, 0, 0, 1);
        int[][] none = {{1, 0, 0}, {-1, 0, 0}, {0, 1, 0}, {0, -1, 0}, {0, 0, 5}, {0, 0, -1}};
        for (int[] u : none) {
            Check.refused(x, "set", x.set(u[0], u[1], u[2], 0, 1), GliderHouse.UNKNOWN);
            Check.refusedAs(x, "get", x.get(u[0], u[1], u[2], 0), 0, GliderHouse.UNKNOWN);
            Check.refused(x, "set, UNKNOWN ahead of BEYOND", x.set(u[0], u[1], u[2], -1, 1), GliderHouse.UNKNOWN);
            Check.refusedAs(x, "get, UNKNOWN ahead of BEYOND", x.get(u[0], u[1], u[2], 99), 0, GliderHouse.UNKNOWN);
        }
        Check.due("an item that is 0 is no refusal", x.get(0, 0, 0, 0), 0);
        Check.due("status()", x.status(), 0);
    }

    private static void holdsAs(int kind, long bits, long want) {
        GliderHouse x = oneBlock();
        x.row(0, 0, kind, 1);
        Check.due("set", x.set(0, 0, kind, 0, bits), 1);
        Check.due("get of kind " + kind + ", " + bits, x.get(0, 0, kind, 0), want);
    }

    private static void bitsOfInts() {
        Check.about("Terms 1", "of ints, bytes the lowest 32, 8 bits with sign");
        holdsAs(Flights.NOISES, Integer.MAX_VALUE, Integer.MAX_VALUE);
        holdsAs(Flights.NOISES, Integer.MIN_VALUE, Integer.MIN_VALUE);
        holdsAs(Flights.NOISES, 0x80000000L, Integer.MIN_VALUE);
        holdsAs(Flights.NOISES, 0xFFFFFFFFL, -1);
        holdsAs(Flights.NOISES, 0x100000000L, 0);
        holdsAs(Flights.NOISES, -0x80000001L, Integer.MAX_VALUE);
        holdsAs(Flights.NOISES, Long.MIN_VALUE, 0);
        holdsAs(Flights.NOISES, Long.MAX_VALUE, -1);
    }

    private static void bitsOfBytes() {
        Check.about("Terms 1", "of ints, bytes the lowest 32, 8 bits with sign");
        holdsAs(Flights.MARKS, 127, 127);
        holdsAs(Flights.MARKS, 128, -128);
        holdsAs(Flights.MARKS, 255, -1);
        holdsAs(Flights.MARKS, 256, 0);
        holdsAs(Flights.MARKS, -128, -128);
        holdsAs(Flights.MARKS, -129, 127);
        holdsAs(Flights.MARKS, Long.MIN_VALUE, 0);
        holdsAs(Flights.MARKS, Long.MAX_VALUE, -1);
    }

    private static void bitsOfLongs() {
        Check.about("Terms 1", "of longs themselves");
        long[] some = {0, -1, Long.MIN_VALUE, Long.MAX_VALUE, 0x7FF0000000000001L, 0x80000000L};
        for (long bits : some) {
            holdsAs(Flights.MOMENTS, bits, bits);
        }
    }

    private static void sizes() {
        Check.about("Promise 12", "How many items a ROW has (NONE: LOST). UNKNOWN");
        GliderHouse x = oneBlock();
        x.row(0, 0, Flights.FIXES, 48);
        Check.due("48", x.size(0, 0, Flights.FIXES), 48);
        x.lack(-1);
        Check.due("LOST", x.size(0, 0, Flights.MARKS), GliderHouse.NONE);
        Check.due("NONE is no refusal", x.status(), 0);
        int[][] none = {{1, 0, 0}, {-1, 0, 0}, {0, 1, 0}, {0, -1, 0}, {0, 0, 5}, {0, 0, -1}};
        for (int[] u : none) {
            Check.refused(x, "size", x.size(u[0], u[1], u[2]), GliderHouse.UNKNOWN);
        }
        Check.due("each item has its width in what is WRITTEN", x.export(0), 2 + 1 + 1 + 48 * WIDTHS[Flights.FIXES] + 1 + 1 + 1 + 1);
    }
}
