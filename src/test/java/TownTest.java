/** Promises 1 to 7 and 33: a new object, the TEXT, THINGS, CASES, WEIGHTS, LISTS, BREATHS, how many. */
public final class TownTest {
    private static final int UNKNOWN = -1, OUTSIDE = -2, STATE = -3, NONE = -9;

    public static void main(String[] args) {
        newObject();
        takenText();
        firstFaults();
        textOfSomeCells();
        faultsOfTown();
        allAnew();
        listAndBreath();
        Due.end();
    }

    private static void due(String call, long got, long want) {
        Due.due(call, got, want);
    }

    private static void newObject() {
        UnsaidCalls x = new UnsaidCalls();
        for (int what = 0; what < 4; what++) {
            due("new: many", x.many(what), 0);
        }
        due("new: many(-1)", x.many(-1), OUTSIDE);
        due("new: many(4)", x.many(4), OUTSIDE);
        due("new: cases", x.cases(), 0L);
        due("new: weight(0)", x.weight(0), UNKNOWN);
        due("new: ofThing(0, 0)", x.ofThing(0, 0), UNKNOWN);
        due("new: trace", x.trace(), 0);
        due("new: fault", x.fault(), 0);
        for (int k = 0; k < 4; k++) {
            due("new: lose", x.lose(k), 0);
        }
        due("new: list(0, 0)", x.list(0, 0), STATE);
        due("new: list(0, 1)", x.list(0, 1), OUTSIDE);
        due("new: list(6, 1)", x.list(6, 1), UNKNOWN);
        due("new: breath(0, 0)", x.breath(0, 0), STATE);
        due("new: breath(0, 19)", x.breath(0, 19), OUTSIDE);
        due("new: breath(-1, 19)", x.breath(-1, 19), UNKNOWN);
    }

    /** THING 0: 2 of 10, THING 1 (DREADED): 9 of 10, THING 2 (LONG): 4 of 10; if 2 is so, 0 is so. */
    private static void takenText() {
        UnsaidCalls x = new UnsaidCalls();
        due("town", Due.takeText(x, "wt2d9l4;20"), 3);
        due("fault", x.fault(), 0);
        int[][] things = {{0, 2, 1}, {2, 9, 3}, {1, 4, 2}};
        for (int t = 0; t < 3; t++) {
            for (int what = 0; what < 3; what++) {
                due("ofThing(" + t + ", " + what + ")", x.ofThing(t, what), things[t][what]);
            }
            due("ofThing(.., 3)", x.ofThing(t, 3), OUTSIDE);
            due("ofThing(.., -1)", x.ofThing(t, -1), OUTSIDE);
        }
        due("ofThing(3, 0)", x.ofThing(3, 0), UNKNOWN);
        due("ofThing(-1, 9)", x.ofThing(-1, 9), UNKNOWN);
        due("cases", x.cases(), 0b10101111L);
        int[] weights = {48, 12, 432, 108, UNKNOWN, 8, UNKNOWN, 72, UNKNOWN};
        for (int c = 0; c < weights.length; c++) {
            due("weight(" + c + ")", x.weight(c), weights[c]);
        }
        due("weight(-1)", x.weight(-1), UNKNOWN);
        due("weight(32)", x.weight(32), UNKNOWN);
        due("weight(64)", x.weight(64), UNKNOWN);
        due("weight(65)", x.weight(65), UNKNOWN);
        due("many(0)", x.many(0), 3);
        due("many(1)", x.many(1), 6);
        due("the greatest weight", Due.townOf("wt9t9t9t9t9t9").weight(63), 531441);
        due("cases of 6 free THINGS", Due.townOf("wt9t9t9t9t9t9").cases(), -1L);
        UnsaidCalls chain = Due.townOf("wt1t1t1t1t1t1;05;54;43;32");
        due("cases of a chain", chain.many(1), 2 * 6);
    }

    private static void firstFaults() {
        String[] texts = {"", "w", "x", "W", "wt", "wt3", "wt3l", "wt0", "wt3;", "wt3;01", "wtt", "wd3x", "w;01",
            "wt1l2;", "wt1l2;0", "wt1l2;2", "wt1l2;00", "wt1l2;11", "wt1l2;02", "wt1l2;012", "wt1l2;01t3",
            "wt1l2;01;", "wt1t1t1t1t1t1t", "wt1t1t1t1t1t1d1", "wt1t1t1t1t1t1;06", "wt1t1t1t1t1t1;60",
            "wt1l2;01;10;01;10;", "wt1l2;01;10;01;10;01", "wt1l2;01;10;01;10t", "wt1l2;:1", "wt1l2;/1",
            "ww", "wt1l2 ", "wt:", "wt1l2w", " wt1l2", "wt1l10"};
        int[] places = {0, 1, 0, 0, 2, 3, 4, 2, 3, 3, 2, 3, 1,
            6, 7, 6, 7, 7, 7, 8, 8,
            9, 13, 13, 15, 14,
            17, 17, 17, 6, 6,
            1, 5, 2, 5, 0, 5};
        for (int k = 0; k < texts.length; k++) {
            UnsaidCalls x = Due.townOf("wl5d5");
            x.list(2, 3);
            due("town of '" + texts[k] + "'", Due.takeText(x, texts[k]), -100 - places[k]);
            due("fault of '" + texts[k] + "'", x.fault(), 0);
            due("things kept behind '" + texts[k] + "'", x.many(0), 2);
            due("kind kept", x.ofThing(0, 0), 1);
            due("list kept", x.list(2, 0), 3);
        }
        String[] taken = {"wt1l2", "wt1l2;01", "wt1l2;10;01;01;01", "wt1t1t1t1t1t1", "wd9d9d9d9d9d9;50;05;45;01"};
        int[] things = {2, 2, 2, 6, 6};
        for (int k = 0; k < taken.length; k++) {
            due("town of '" + taken[k] + "'", Due.takeText(new UnsaidCalls(), taken[k]), things[k]);
        }
    }

    private static void textOfSomeCells() {
        for (int lane = 0; lane < 3; lane++) {
            UnsaidCalls x = new UnsaidCalls();
            Due.write(x, lane, lane, "zzwt1d2;10zz");
            due("town of cells within", x.town(lane, lane, 2, 8), 2);
            due("its cases", x.cases(), 0b1011L);
            due("its end left out", x.town(lane, lane, 2, 7), -107);
            due("no cells at the end", x.town(lane, lane, 12, 0), -100);
        }
        // 119 + 65536 is a w, if it is cut to its LANE, but not in a row of ints.
        int[] answers = {2, 2, -100};
        for (int lane = 0; lane < 3; lane++) {
            UnsaidCalls x = new UnsaidCalls();
            Due.write(x, 0, lane, "wt1d2");
            x.put(0, 0, 119 + 65536);
            due("a code that was cut", x.town(0, lane, 0, 5), answers[lane]);
        }
    }

    private static void faultsOfTown() {
        UnsaidCalls x = new UnsaidCalls();
        Due.write(x, 1, 1, "wt1d2");
        int[][] calls = {
            // sheet, lane, i, n, answer, fault
            {-1, 9, 0, -1, UNKNOWN, 0}, {4, 1, 0, 5, UNKNOWN, 0}, {1, -1, 0, -1, OUTSIDE, 0}, {1, 3, 0, 5, OUTSIDE, 0},
            {1, 0, 0, -1, -12, 2}, {1, 2, 9, 9, -12, 2}, {0, 0, 0, -1, -11, 1}, {0, 2, 99, 5, -11, 1},
            {1, 1, 99, -1, -14, 4}, {1, 1, -1, -1, -14, 4}, {1, 1, -1, 2, -13, 3}, {1, 1, 6, 0, -13, 3},
            {1, 1, -1, 0, -13, 3}, {1, 1, 1, 5, -13, 3}, {1, 1, 0, 6, -13, 3}, {1, 1, 2, Integer.MAX_VALUE, -13, 3},
            {1, 1, Integer.MAX_VALUE, Integer.MAX_VALUE, -13, 3}, {1, 1, Integer.MIN_VALUE, 1, -13, 3},
            {1, 1, 5, 0, -100, 0}, {1, 1, 0, 5, 2, 0}};
        for (int[] c : calls) {
            String call = "town(" + c[0] + ", " + c[1] + ", " + c[2] + ", " + c[3] + ")";
            x.put(2, 0, 0);
            due("a fault ahead of it", x.fault(), 1);
            due(call, x.town(c[0], c[1], c[2], c[3]), c[4]);
            due("fault of " + call, x.fault(), c[5]);
        }
    }

    private static void allAnew() {
        UnsaidCalls x = Due.townOf("wt5d5l5");
        x.list(0, 7);
        x.breath(0, 3);
        x.hear(0, 1);
        x.hear(5, 0);
        x.reading(0, 0, 1);
        x.tell(0);
        x.sheet(1, 0, 2);
        x.put(1, 1, 8);
        due("HEARD ahead", x.many(2), 2);
        due("READINGS ahead", x.many(3), 1);
        due("another TOWN", Due.takeText(x, "wt1t1"), 2);
        due("THINGS anew", x.many(0), 2);
        due("CASES anew", x.cases(), 15L);
        due("weight anew", x.weight(0), 81);
        due("HEARD anew", x.many(2), 0);
        due("READINGS anew", x.many(3), 0);
        due("heard anew", x.hear(0, NONE), NONE);
        due("list anew", x.list(0, 0), 0);
        due("breath anew", x.breath(0, 0), 9);
        due("TRACE kept", x.trace(), 1);
        due("SHEET kept", x.cell(1, 1, 0), 8);
        due("more THINGS again", Due.takeText(x, "wt1t1d1l1t1t1"), 6);
        due("CASES of 6", x.many(1), 64);
    }

    private static void listAndBreath() {
        UnsaidCalls x = Due.townOf("wt5d5l5");
        for (int hour = 0; hour < 6; hour++) {
            due("list", x.list(hour, 7 - hour), 0);
            due("breath", x.breath(hour, 18 - hour), 9);
        }
        for (int hour = 0; hour < 6; hour++) {
            due("list was", x.list(hour, 0), 7 - hour);
            due("breath was", x.breath(hour, 0), 18 - hour);
        }
        due("list(6, 0)", x.list(6, 0), UNKNOWN);
        due("list(-1, 8)", x.list(-1, 8), UNKNOWN);
        due("list(0, 8)", x.list(0, 8), OUTSIDE);
        due("list(0, -1)", x.list(0, -1), OUTSIDE);
        due("list(0, MIN)", x.list(0, Integer.MIN_VALUE), OUTSIDE);
        due("breath(6, 0)", x.breath(6, 0), UNKNOWN);
        due("breath(0, 19)", x.breath(0, 19), OUTSIDE);
        due("breath(0, -1)", x.breath(0, -1), OUTSIDE);
        due("list unchanged", x.list(0, 0), 0);
        due("breath unchanged", x.breath(0, 18), 0);
        due("breath 18", x.breath(0, 0), 18);
    }
}
