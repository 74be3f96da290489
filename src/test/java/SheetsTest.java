/** Promises 23 to 32: SHEETS and their FAULTS, TELLING and FEARING with their TRACE, kinds. */
public final class SheetsTest {
    private static final int UNKNOWN = -1, OUTSIDE = -2;
    private static final long LOST = Long.MIN_VALUE;

    public static void main(String[] args) {
        sheet();
        lose();
        putAndCell();
        copy();
        copyWithinItself();
        tellAndFear();
        traceWraps();
        as();
        faultsAreOfTheLatest();
        Due.end();
    }

    private static void due(String call, long got, long want) {
        Due.due(call, got, want);
    }

    /** Brings about a FAULT 1, so that a FAULT of 0 is seen to come from the next call. */
    private static void stumble(UnsaidCalls x) {
        x.lose(3);
        due("a fault ahead", x.put(3, 0, 0), -11);
    }

    private static void sheet() {
        UnsaidCalls x = new UnsaidCalls();
        int[][] calls = {
            // k, lane, n, answer, fault
            {-1, 9, -1, UNKNOWN, 0}, {4, 0, 0, UNKNOWN, 0}, {0, -1, -1, OUTSIDE, 0}, {0, 3, 5, OUTSIDE, 0},
            {0, 0, 61, OUTSIDE, 0}, {0, 0, -1, -14, 4}, {0, 2, Integer.MIN_VALUE, -14, 4}, {0, 0, 60, 1, 0},
            {2, 2, 0, 1, 0}};
        for (int[] c : calls) {
            String call = "sheet(" + c[0] + ", " + c[1] + ", " + c[2] + ")";
            stumble(x);
            due(call, x.sheet(c[0], c[1], c[2]), c[3]);
            due("fault of " + call, x.fault(), c[4]);
        }
        due("the last cell", x.put(0, 59, 7), 1);
        due("no cell 60", x.put(0, 60, 7), -13);
        due("a refused row changes nothing", x.sheet(0, 0, -5), -14);
        due("still 7", x.cell(0, 59, 0), 7);
        due("a new row", x.sheet(0, 1, 60), 1);
        due("its cells are 0", x.cell(0, 59, 1), 0);
        due("a row of no cells", x.put(2, 0, 1), -13);
    }

    private static void lose() {
        UnsaidCalls x = new UnsaidCalls();
        x.sheet(1, 2, 3);
        due("lose(1)", x.lose(1), 1);
        due("lose(1) again", x.lose(1), 0);
        due("lose(-1)", x.lose(-1), UNKNOWN);
        due("lose(4)", x.lose(4), UNKNOWN);
        due("it has nothing", x.put(1, 0, 0), -11);
        due("lose names no FAULTS", x.lose(4), UNKNOWN);
        due("so the FAULT stays", x.fault(), 1);
    }

    private static void putAndCell() {
        UnsaidCalls x = new UnsaidCalls();
        int[] values = {0, 1, -1, 127, 128, 255, 256, 300, 32767, 32768, 65535, 70001, Integer.MAX_VALUE, Integer.MIN_VALUE};
        for (int lane = 0; lane < 3; lane++) {
            x.sheet(lane, lane, 2);
            for (int v : values) {
                long cut = lane == 0 ? (byte) v : lane == 1 ? (short) v : v;
                due("put", x.put(lane, 1, v), 1);
                due("cell of LANE " + lane, x.cell(lane, 1, lane), cut);
                due("the cell beside it", x.cell(lane, 0, lane), 0);
            }
        }
        x.lose(3);
        long[][] cells = {
            // k, i, lane, answer, fault
            {-1, 0, 9, LOST, 0}, {4, 0, 0, LOST, 0}, {0, 9, 3, LOST, 0}, {0, 0, -1, LOST, 0}, {0, 9, 1, LOST, 2},
            {1, 0, 2, LOST, 2}, {3, 9, 0, LOST, 1}, {3, 0, 2, LOST, 1}, {0, 2, 0, LOST, 3}, {0, -1, 0, LOST, 3},
            {0, Integer.MIN_VALUE, 0, LOST, 3}, {2, 0, 2, 0, 0}};
        for (long[] c : cells) {
            String call = "cell(" + c[0] + ", " + c[1] + ", " + c[2] + ")";
            stumble(x);
            due(call, x.cell((int) c[0], (int) c[1], (int) c[2]), c[3]);
            due("fault of " + call, x.fault(), c[4]);
        }
        int[][] puts = {
            // k, i, answer, fault
            {-1, 0, UNKNOWN, 0}, {4, 99, UNKNOWN, 0}, {3, -1, -11, 1}, {0, 2, -13, 3}, {0, -1, -13, 3}, {0, 1, 1, 0}};
        for (int[] c : puts) {
            String call = "put(" + c[0] + ", " + c[1] + ", 5)";
            stumble(x);
            due(call, x.put(c[0], c[1], 5), c[2]);
            due("fault of " + call, x.fault(), c[3]);
        }
    }

    private static void copy() {
        UnsaidCalls x = new UnsaidCalls();
        x.sheet(0, 1, 5);
        x.sheet(1, 1, 3);
        x.sheet(2, 2, 5);
        for (int i = 0; i < 5; i++) {
            x.put(0, i, 11 * (i + 1));
        }
        int[][] calls = {
            // k, i, other, j, n, answer, fault
            {-1, 0, 0, 0, 0, UNKNOWN, 0}, {4, 0, 0, 0, 0, UNKNOWN, 0}, {3, 0, 4, 0, 0, UNKNOWN, 0},
            {0, 0, -1, 0, 0, UNKNOWN, 0}, {3, 0, 0, 0, -1, -11, 1}, {0, 0, 3, 0, -1, -11, 1}, {3, 0, 3, 0, 0, -11, 1},
            {0, 0, 2, 0, -1, -12, 2}, {2, 9, 1, 0, 0, -12, 2}, {0, -1, 1, 0, 0, -13, 3}, {0, 0, 1, -1, 0, -13, 3},
            {0, 0, 1, 0, -1, -13, 3}, {0, 6, 1, 0, 0, -13, 3}, {0, 0, 1, 4, 0, -13, 3}, {0, 3, 1, 0, 3, -13, 3},
            {0, 0, 1, 1, 3, -13, 3}, {0, 1, 1, 1, Integer.MAX_VALUE, -13, 3},
            {0, Integer.MAX_VALUE, 1, 0, 1, -13, 3}, {0, 5, 1, 3, 0, 0, 0}, {0, 1, 1, 0, 3, 3, 0}};
        for (int[] c : calls) {
            String call = "copy(" + c[0] + ", " + c[1] + ", " + c[2] + ", " + c[3] + ", " + c[4] + ")";
            stumble(x);
            due(call, x.copy(c[0], c[1], c[2], c[3], c[4]), c[5]);
            due("fault of " + call, x.fault(), c[6]);
        }
        for (int i = 0; i < 3; i++) {
            due("copied cell " + i, x.cell(1, i, 1), 11 * (i + 2));
        }
        due("the first SHEET is as it was", x.cell(0, 1, 1), 22);
        due("one cell more", x.copy(0, 0, 1, 2, 1), 1);
        due("it came to its place", x.cell(1, 2, 1), 11);
    }

    private static void copyWithinItself() {
        int[][] moves = {{0, 2, 3}, {2, 0, 3}, {1, 1, 4}, {0, 1, 4}, {1, 0, 4}};
        for (int[] m : moves) {
            UnsaidCalls x = new UnsaidCalls();
            x.sheet(2, 0, 5);
            int[] row = {1, 2, 3, 4, 5};
            for (int i = 0; i < 5; i++) {
                x.put(2, i, row[i]);
            }
            System.arraycopy(row, m[0], row, m[1], m[2]);
            due("copy within", x.copy(2, m[0], 2, m[1], m[2]), m[2]);
            for (int i = 0; i < 5; i++) {
                due("cell " + i, x.cell(2, i, 0), row[i]);
            }
        }
    }

    private static void tellAndFear() {
        UnsaidCalls x = Due.townOf("wd2t3l5");
        due("a THING", x.tell(1), 3);
        due("its body", x.trace(), 1);
        due("a LONG", x.tell(2), 105);
        int trace = 31 * (31 * 1 + 2) + 1;
        due("its bodies", x.trace(), trace);
        due("a DREADED", x.tell(0), 104);
        trace = 31 * (31 * (31 * (31 * trace + 3) + 2) + 1) + 1;
        due("its bodies", x.trace(), trace);
        due("a THING is FEARED", x.fear(1), 1);
        trace = 31 * trace + 4;
        due("by a lent body", x.trace(), trace);
        due("a LONG is FEARED", x.fear(2), 2);
        trace = 31 * trace + 4;
        due("by a lent body", x.trace(), trace);
        due("a DREADED is FEARED", x.fear(0), 30);
        trace = 31 * trace + 5;
        due("by its own", x.trace(), trace);
        due("tell(3)", x.tell(3), UNKNOWN);
        due("tell(-1)", x.tell(-1), UNKNOWN);
        due("fear(3)", x.fear(3), UNKNOWN);
        due("fear(-1)", x.fear(-1), UNKNOWN);
        due("TRACE is as it was", x.trace(), trace);
        due("without a TOWN", new UnsaidCalls().tell(0), UNKNOWN);
        due("without a TOWN", new UnsaidCalls().fear(0), UNKNOWN);
    }

    private static void traceWraps() {
        UnsaidCalls x = Due.townOf("wt2t3");
        int trace = 0;
        for (int k = 0; k < 20; k++) {
            x.tell(0);
            trace = 31 * trace + 1;
            due("trace", x.trace(), trace);
        }
        x.tell(5);
        x.cell(0, 0, 0);
        due("TRACE stays", x.trace(), trace);
    }

    private static void as() {
        UnsaidCalls x = Due.townOf("wt2l3d5");
        for (int t = 0; t < 3; t++) {
            for (int kind = 0; kind < 3; kind++) {
                stumble(x);
                due("as(" + t + ", " + kind + ")", x.as(t, kind), kind <= t ? 1 : -12);
                due("its fault", x.fault(), kind <= t ? 0 : 2);
            }
            stumble(x);
            due("as(.., 3)", x.as(t, 3), OUTSIDE);
            due("its fault", x.fault(), 0);
            due("as(.., -1)", x.as(t, -1), OUTSIDE);
        }
        stumble(x);
        due("as(3, 9)", x.as(3, 9), UNKNOWN);
        due("its fault", x.fault(), 0);
        due("as(-1, 0)", x.as(-1, 0), UNKNOWN);
    }

    private static void faultsAreOfTheLatest() {
        UnsaidCalls x = Due.townOf("wt2l3d5");
        due("a CAST", x.as(0, 2), -12);
        x.many(9);
        x.ofThing(9, 9);
        x.list(9, 9);
        x.breath(0, 99);
        x.called(99, 0);
        x.hear(0, 99);
        x.sure(9);
        x.chance(9, 9);
        x.parts(9);
        x.best(9, 9);
        x.words(9, 9);
        x.secret(0, 99, 0, 0);
        x.shortest(9, 9);
        x.two(99, 0, 0);
        x.reading(0, 0, 99);
        x.back(9);
        x.rules(9, 9);
        x.lose(9);
        x.tell(9);
        x.fear(9);
        x.trace();
        due("calls that name none change nothing", x.fault(), 2);
        due("asking changes nothing", x.fault(), 2);
    }
}
