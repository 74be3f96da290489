import java.util.Arrays;

/** Promises 23 to 32: SHEETS and their FAULTS, TELLING and FEARING with their TRACE, kinds. */
public final class SheetsTest extends Sentences {
    public static void main(String[] args) {
        new SheetsTest().run();
    }

    @Override
    void all() {
        sheets();
        lengths();
        lose();
        lanes();
        cells();
        copy();
        copyToItself();
        tell();
        fear();
        traceWraps();
        longestUse();
        as();
        latestFault();
        faultsOfOthers();
    }

    private static void cellsDue(UnsaidCalls x, int k, int lane, int... numbers) {
        for (int i = 0; i < numbers.length; i++) {
            due(x, "cell(" + k + ", " + i + ", " + lane + ")", numbers[i]);
        }
        due(x, "cell(" + k + ", " + numbers.length + ", " + lane + ")", LOST);
        due(x, "fault()", 3);
    }

    private static void sheets() {
        UnsaidCalls x = new UnsaidCalls();
        says(23, "SHEETS 0 .. 3 have nothing (at first)");
        due(x, "put(-1, 0, 0)", UNKNOWN);
        for (int k = 0; k < 4; k++) {
            due(x, "put(" + k + ", 0, 0)", NULL);
        }
        due(x, "put(4, 0, 0)", UNKNOWN);
        says(23, "A SHEET gets a new row: 1.");
        due(x, "sheet(0, 0, 3)", 1);
        ready(x, "put(0, 0, 5)", "put(0, 2, 7)");
        cellsDue(x, 0, 0, 5, 0, 7);
        due(x, "sheet(0, 0, 3)", 1);
        cellsDue(x, 0, 0, 0, 0, 0);
        due(x, "sheet(0, 2, 2)", 1);
        cellsDue(x, 0, 2, 0, 0);
        due(x, "cell(0, 0, 0)", LOST);
        due(x, "sheet(3, 1, 1)", 1);
        cellsDue(x, 3, 1, 0);
        cellsDue(x, 0, 2, 0, 0);
    }

    private static void lengths() {
        says(23, ", or a row of 0 .. 60 numbers (0 at first)");
        for (int lane = 0; lane < 3; lane++) {
            UnsaidCalls x = new UnsaidCalls();
            String row = "sheet(2, " + lane + ", ";
            due(x, row + "-1)", SIZE);
            due(x, "lose(2)", 0);
            due(x, row + "0)", 1);
            cellsDue(x, 2, lane);
            due(x, "put(2, 0, 1)", INDEX);
            due(x, "put(2, -1, 1)", INDEX);
            due(x, "lose(2)", 1);
            due(x, row + "1)", 1);
            cellsDue(x, 2, lane, 0);
            due(x, row + "60)", 1);
            cellsDue(x, 2, lane, new int[60]);
            due(x, "put(2, 59, 9)", 1);
            due(x, "put(2, 60, 9)", INDEX);
            due(x, row + "61)", OUTSIDE);
            due(x, "cell(2, 59, " + lane + ")", 9);
            due(x, row + "60)", 1);
            due(x, "cell(2, 59, " + lane + ")", 0);
        }
        says(23, " of a LANE: 0 bytes, 1 shorts, 2 ints");
        UnsaidCalls x = new UnsaidCalls();
        due(x, "sheet(0, -1, 1)", OUTSIDE);
        for (int lane = 0; lane < 3; lane++) {
            due(x, "sheet(" + lane + ", " + lane + ", 1)", 1);
        }
        due(x, "sheet(0, 3, 1)", OUTSIDE);
    }

    private static void lose() {
        UnsaidCalls x = new UnsaidCalls();
        says(24, "A SHEET has nothing: 1; 0: it had nothing.");
        ready(x, "sheet(1, 2, 3)", "put(1, 0, 4)", "sheet(2, 0, 0)");
        due(x, "lose(1)", 1);
        due(x, "lose(1)", 0);
        due(x, "put(1, 0, 0)", NULL);
        due(x, "cell(1, 0, 2)", LOST);
        due(x, "fault()", 1);
        due(x, "lose(2)", 1);
        due(x, "lose(2)", 0);
        due(x, "lose(0)", 0);
        ready(x, "sheet(1, 2, 3)");
        cellsDue(x, 1, 2, 0, 0, 0);
    }

    private static void lanes() {
        int[] numbers = {0, 1, -1, 127, 128, -128, -129, 255, 256, 300, 32767, 32768, -32768, -32769, 65535, 65536, 70001,
            Integer.MAX_VALUE, Integer.MIN_VALUE};
        UnsaidCalls x = new UnsaidCalls();
        says(25, "; what comes to a cell of it is cut to its LANE (with its sign).");
        for (int lane = 0; lane < 3; lane++) {
            x.sheet(lane, lane, 3);
            for (int v : numbers) {
                int cut = lane == 0 ? (byte) v : lane == 1 ? (short) v : v;
                due("put of " + v, x.put(lane, 1, v), 1);
                due("LANE " + lane + " of " + v, x.cell(lane, 1, lane), cut);
            }
            due(x, "cell(" + lane + ", 0, " + lane + ")", 0);
            due(x, "cell(" + lane + ", 2, " + lane + ")", 0);
        }
        ready(x, "put(0, 0, 300)", "put(0, 2, 128)", "put(1, 0, 70001)", "put(1, 2, 32768)");
        due(x, "cell(0, 0, 0)", 44);
        due(x, "cell(0, 2, 0)", -128);
        due(x, "cell(1, 0, 1)", 4465);
        due(x, "cell(1, 2, 1)", -32768);
    }

    private static void cells() {
        UnsaidCalls x = new UnsaidCalls();
        ready(x, "sheet(0, 1, 3)", "sheet(3, 1, 3)");
        says(25, "Cell i of a SHEET becomes v: 1.");
        due(x, "put(0, 0, 4)", 1);
        due(x, "put(0, 2, -6)", 1);
        cellsDue(x, 0, 1, 4, 0, -6);
        cellsDue(x, 3, 1, 0, 0, 0);
        due(x, "put(0, 2, 0)", 1);
        cellsDue(x, 0, 1, 4, 0, 0);
        says(26, "Cell i of what a SHEET has, taken as a row of a LANE.");
        ready(x, "put(3, 1, 9)");
        due(x, "cell(3, 1, 1)", 9);
        due(x, "cell(3, 1, 0)", LOST);
        due(x, "fault()", 2);
        due(x, "cell(3, 1, 2)", LOST);
        due(x, "fault()", 2);
        due(x, "cell(3, 1, 1)", 9);
        due(x, "fault()", 0);
    }

    /** SHEETS 0 and 1 are shorts, with 11, 22, 33, 44, 55 and with 0, 0, 0. */
    private static void copy() {
        UnsaidCalls x = new UnsaidCalls();
        ready(x, "sheet(0, 1, 5)", "sheet(1, 1, 3)");
        for (int i = 0; i < 5; i++) {
            x.put(0, i, 11 * (i + 1));
        }
        says(27, "n cells of a SHEET from i on go to another one (perhaps the same) from j on");
        due(x, "copy(0, 2, 1, 0, 3)", 3);
        cellsDue(x, 1, 1, 33, 44, 55);
        due(x, "copy(0, 0, 1, 2, 1)", 1);
        cellsDue(x, 1, 1, 33, 44, 11);
        due(x, "copy(1, 1, 0, 4, 1)", 1);
        cellsDue(x, 0, 1, 11, 22, 33, 44, 44);
        due(x, "copy(0, 0, 1, 0, 0)", 0);
        due(x, "copy(0, 5, 1, 3, 0)", 0);
        cellsDue(x, 1, 1, 33, 44, 11);
        for (int lane = 0; lane < 3; lane++) {
            UnsaidCalls full = new UnsaidCalls();
            ready(full, "sheet(2, " + lane + ", 60)", "sheet(3, " + lane + ", 60)", "put(2, 0, -5)", "put(2, 59, 6)");
            due(full, "copy(2, 0, 3, 0, 60)", 60);
            due(full, "cell(3, 0, " + lane + ")", -5);
            due(full, "cell(3, 59, " + lane + ")", 6);
            due(full, "cell(2, 59, " + lane + ")", 6);
        }
    }

    private static void copyToItself() {
        says(27, ", as they were: n.");
        int[][] moves = {{0, 2, 3}, {2, 0, 3}, {1, 1, 4}, {0, 1, 4}, {1, 0, 4}, {0, 4, 1}, {0, 0, 5}, {5, 0, 0}, {0, 5, 0}};
        for (int[] m : moves) {
            UnsaidCalls x = new UnsaidCalls();
            ready(x, "sheet(2, 0, 5)");
            int[] row = {1, 2, 3, 4, 5};
            for (int i = 0; i < 5; i++) {
                x.put(2, i, row[i]);
            }
            int[] moved = row.clone();
            for (int p = 0; p < m[2]; p++) {
                moved[m[1] + p] = row[m[0] + p];
            }
            due(x, "copy(2, " + m[0] + ", 2, " + m[1] + ", " + m[2] + ")", m[2]);
            cellsDue(x, 2, 0, moved);
        }
    }

    /** What TRACE becomes by bodies. */
    private static int traceBy(int ahead, int... bodies) {
        return Arrays.stream(bodies).reduce(ahead, (trace, body) -> 31 * trace + body);
    }

    private static void tell() {
        UnsaidCalls x = Due.townOf("wd2t3l5");
        says(28, "THING (1): its digit.");
        due(x, "tell(1)", 3);
        due(x, "trace()", 1);
        says(28, "LONG (2): what THING's gives, and 100.");
        due(x, "tell(2)", 105);
        int trace = traceBy(1, 2, 1);
        due(x, "trace()", trace);
        says(28, "DREADED (3): what LONG's gives, and what THING's gives (LONG's left out).");
        due(x, "tell(0)", 104);
        trace = traceBy(trace, 3, 2, 1, 1);
        due(x, "trace()", trace);
        says(28, "TELLING of a THING.");
        int[][] greatest = {{0, 9}, {1, 109}, {2, 118}};
        UnsaidCalls nine = Due.townOf("wt9l9d9");
        UnsaidCalls one = Due.townOf("wt1l1d1");
        for (int[] t : greatest) {
            due(nine, "tell(" + t[0] + ")", t[1]);
            due(one, "tell(" + t[0] + ")", t[0] == 2 ? 102 : t[1] - 8);
        }
        says(31, "TELLING of THINGS by bodies that leave their number in TRACE");
        due(x, "tell(3)", UNKNOWN);
        due(x, "tell(-1)", UNKNOWN);
        due(x, "as(0, 2)", 1);
        due(x, "ofThing(0, 1)", 2);
        due(x, "trace()", trace);
    }

    private static void fear() {
        UnsaidCalls x = Due.townOf("wt2l3d5t4l4d4");
        says(29, "FEARED by a lent body (4): the THING's number;");
        due(x, "fear(0)", 0);
        due(x, "trace()", 4);
        due(x, "fear(1)", 1);
        due(x, "trace()", traceBy(0, 4, 4));
        due(x, "fear(3)", 3);
        due(x, "fear(4)", 4);
        int trace = traceBy(0, 4, 4, 4, 4);
        due(x, "trace()", trace);
        says(29, " DREADED ones have their own (5): 30.");
        due(x, "fear(2)", 30);
        due(x, "fear(5)", 30);
        due(x, "trace()", traceBy(trace, 5, 5));
        says(29, "How it is FEARED.");
        due(x, "fear(6)", UNKNOWN);
        due(x, "fear(-1)", UNKNOWN);
        due(x, "trace()", traceBy(trace, 5, 5));
        due(Due.townOf("wd1t1"), "fear(0)", 30);
    }

    private static void traceWraps() {
        says(31, "(an int that wraps, 0 at first, becomes 31 times it and the number) as they begin:");
        UnsaidCalls x = new UnsaidCalls();
        due(x, "trace()", 0);
        Due.takeText(x, "wt2d3");
        due(x, "trace()", 0);
        int trace = 0;
        boolean wrapped = false;
        for (int k = 0; k < 60; k++) {
            x.tell(k % 2);
            trace = k % 2 == 0 ? traceBy(trace, 1) : traceBy(trace, 3, 2, 1, 1);
            due("TRACE behind " + (k + 1) + " TELLINGS", x.trace(), trace);
            wrapped |= trace < 0;
        }
        due("it wraps", wrapped ? 1 : 0, 1);
        says(31, "TRACE.");
        for (int k = 0; k < 3; k++) {
            due(x, "trace()", trace);
        }
        due("a TEXT that is taken leaves it", Due.takeText(x, "wt1t1"), 2);
        due(x, "trace()", trace);
    }

    private static void longestUse() {
        says(31, "An object is used for at most 512 calls after it has been made");
        UnsaidCalls x = new UnsaidCalls();
        int calls = 2 + 5;
        due("the TEXT, by " + calls + " calls", Due.takeText(x, "wt5d5"), 2);
        int trace = 0;
        for (; calls < 510; calls++) {
            x.tell(1);
            trace = traceBy(trace, 3, 2, 1, 1);
        }
        due(x, "tell(1)", 110);
        due(x, "trace()", traceBy(trace, 3, 2, 1, 1));
    }

    private static void as() {
        UnsaidCalls x = Due.townOf("wt2l3d5");
        says(30, "A THING, taken as one of a kind: 1.");
        for (int t = 0; t < 3; t++) {
            for (int kind = 0; kind <= t; kind++) {
                dueWithFault(x, "as(" + t + ", " + kind + ")", 1, 0);
            }
        }
    }

    private static void latestFault() {
        UnsaidCalls x = new UnsaidCalls();
        says(32, "(0 ahead of any)");
        due(x, "fault()", 0);
        ready(x, "tell(0)", "lose(9)", "list(9, 9)");
        due(x, "fault()", 0);
        says(32, "The FAULT of the latest call that names one");
        due(x, "put(0, 0, 0)", NULL);
        due(x, "fault()", 1);
        due(x, "fault()", 1);
        due(x, "sheet(0, 0, -1)", SIZE);
        due(x, "fault()", 4);
        due(x, "sheet(0, 0, 1)", 1);
        due(x, "put(0, 1, 0)", INDEX);
        due(x, "fault()", 3);
        due(x, "cell(0, 1, 1)", LOST);
        due(x, "fault()", 2);
        says(32, ": 0: it came to none, or was refused");
        due(x, "put(0, 0, 0)", 1);
        due(x, "fault()", 0);
        String[] refused = {"town(4, 0, 0, 0)", "night(0, 3, 0, 0)", "night(0, 0, 0, 1)", "sheet(0, 0, 61)", "put(4, 0, 0)",
            "cell(0, 0, 3)", "copy(0, 0, 4, 0, 0)", "as(0, 2)", "town(0, 0, 0, 1)"};
        long[] answers = {UNKNOWN, OUTSIDE, STATE, OUTSIDE, UNKNOWN, LOST, UNKNOWN, UNKNOWN, -100};
        for (int k = 0; k < refused.length; k++) {
            dueWithFault(x, refused[k], answers[k], 0);
        }
    }

    private static void faultsOfOthers() {
        says(32, "The FAULT of the latest call that names one");
        String[] others = {"ofThing(0, 1)", "ofThing(9, 9)", "cases()", "weight(0)", "weight(99)", "list(0, 7)", "list(9, 9)",
            "breath(0, 3)", "breath(0, 99)", "called(0, 0)", "called(99, 0)", "hear(0, 2)", "hear(0, 99)", "thought()",
            "sure(0)", "sure(9)", "chance(0, 0)", "chance(9, 9)", "parts(6)", "parts(9)", "best(0, 0)", "best(9, 9)",
            "words(0, 0)", "words(9, 9)", "secret(0, 1, 1, 0)", "secret(0, 99, 0, 0)", "shortest(0, 0)", "shortest(9, 9)",
            "two(1, 2, 0)", "two(99, 0, 0)", "reading(0, 0, 0)", "reading(0, 0, 99)", "back(1)", "back(9)", "rules(0, -1)",
            "rules(9, 9)", "lose(0)", "lose(9)", "tell(0)", "tell(9)", "fear(0)", "fear(9)", "trace()", "many(0)", "many(9)"};
        UnsaidCalls x = Due.townOf(TOWN);
        due(x, "as(0, 2)", CAST);
        for (String other : others) {
            ready(x, other);
            due("fault() behind " + other, x.fault(), 2);
        }
    }
}
