/** Promises 19 to 22: READINGS, taking them back, RULES, the CALLS of a night. */
public final class RulesTest {
    private static final int UNKNOWN = -1, OUTSIDE = -2, STATE = -3, FULL = -4, NONE = -9;

    public static void main(String[] args) {
        withoutTown();
        readings();
        rules();
        rulesByBreath();
        night();
        faultsOfNight();
        Due.end();
    }

    private static void due(String call, long got, long want) {
        Due.due(call, got, want);
    }

    private static void withoutTown() {
        UnsaidCalls x = new UnsaidCalls();
        due("reading(0, 0, 0)", x.reading(0, 0, 0), UNKNOWN);
        due("back(0)", x.back(0), 0);
        due("back(1)", x.back(1), OUTSIDE);
        due("rules(0, 0)", x.rules(0, 0), STATE);
        due("rules(0, -1)", x.rules(0, -1), STATE);
        due("rules(0, -2)", x.rules(0, -2), UNKNOWN);
        due("rules(6, 0)", x.rules(6, 0), UNKNOWN);
    }

    private static void readings() {
        UnsaidCalls x = Due.townOf("wt2d9l4;20");
        due("no CASE", x.reading(4, 0, 8), UNKNOWN);
        due("CASE -1", x.reading(-1, 0, 0), UNKNOWN);
        due("HOUR 6", x.reading(0, 6, 8), UNKNOWN);
        due("HOUR -1", x.reading(0, -1, 0), UNKNOWN);
        due("a bit of no THING", x.reading(0, 0, 8), OUTSIDE);
        due("NONE is no set here", x.reading(0, 0, NONE), OUTSIDE);
        for (int k = 0; k < 8; k++) {
            due("reading " + k, x.reading(5, k % 6, 7), k);
            due("many READINGS", x.many(3), k + 1);
        }
        due("a ninth one", x.reading(0, 0, 0), FULL);
        due("refused ahead of FULL: UNKNOWN", x.reading(4, 0, 0), UNKNOWN);
        due("refused ahead of FULL: OUTSIDE", x.reading(0, 0, 8), OUTSIDE);
        due("back(9)", x.back(9), OUTSIDE);
        due("back(-1)", x.back(-1), OUTSIDE);
        due("back(0)", x.back(0), 8);
        due("back(3)", x.back(3), 5);
        due("back(6)", x.back(6), OUTSIDE);
        due("the next one", x.reading(0, 0, 0), 5);
        due("back(6) now", x.back(6), 0);
        due("many READINGS", x.many(3), 0);
    }

    private static void rulesDue(UnsaidCalls x, int hour, int... lists) {
        due("rules(" + hour + ", -1)", x.rules(hour, -1), lists.length);
        for (int k = 0; k < lists.length; k++) {
            due("rules(" + hour + ", " + k + ")", x.rules(hour, k), lists[k]);
        }
        due("one more", x.rules(hour, lists.length), NONE);
        due("many more", x.rules(hour, Integer.MAX_VALUE), NONE);
    }

    private static void rules() {
        UnsaidCalls x = Due.townOf("wt2d9l4;20");
        rulesDue(x, 1, 0, 1, 2, 3, 4, 5, 6, 7);
        x.reading(1, 1, 4);
        rulesDue(x, 1, 4, 5);
        rulesDue(x, 0, 0, 1, 2, 3, 4, 5, 6, 7);
        x.reading(2, 1, 5);
        rulesDue(x, 1, 5);
        x.reading(0, 1, 7);
        rulesDue(x, 1);
        x.back(1);
        rulesDue(x, 1, 5);
        x.reading(2, 0, 0);
        x.list(0, 5);
        rulesDue(x, 0, 0, 2);
        rulesDue(x, 1, 5);
        x.back(2);
        rulesDue(x, 1, 4, 5);
        x.hear(1, 0);
        rulesDue(x, 1, 4, 5);
        due("rules(6, 0)", x.rules(6, 0), UNKNOWN);
        due("rules(-1, 0)", x.rules(-1, 0), UNKNOWN);
        due("rules(0, -2)", x.rules(0, -2), UNKNOWN);
        due("rules(0, MIN)", x.rules(0, Integer.MIN_VALUE), UNKNOWN);
    }

    private static void rulesByBreath() {
        UnsaidCalls x = Due.townOf("wt2d9l4;20");
        x.reading(0, 0, 2);
        rulesDue(x, 0, 2);
        x.breath(0, 3);
        rulesDue(x, 0, 2, 3, 6, 7);
        x.breath(0, 2);
        rulesDue(x, 0);
        UnsaidCalls all = Due.townOf("wt5t5t5t5t5t5");
        due("64 RULES", all.rules(0, -1), 64);
        due("the last one", all.rules(0, 63), 63);
        due("no more", all.rules(0, 64), NONE);
    }

    /** LISTS 7, 1, 4 in HOURS 0, 1, 2; by BREATH 2 the CALLS of 7 are 0, 0, 1, 4, 0, 0 in CASES 0, 1, 2, 3, 5, 7. */
    private static void night() {
        for (int lane = 0; lane < 3; lane++) {
            UnsaidCalls x = Due.townOf("wt2d9l4;20");
            x.list(0, 7);
            x.list(1, 1);
            x.list(2, 4);
            x.sheet(lane, lane, 9);
            int[] cells = {5, 3, 0, 2, 18, 0, 0, 19, -1};
            for (int i = 0; i < cells.length; i++) {
                x.put(lane, i, cells[i]);
            }
            due("no HOURS", x.night(lane, lane, 0, 0), 1);
            due("no HOURS at the end", x.night(lane, lane, 9, 0), 1);
            due("BREATH 5", x.night(lane, lane, 0, 1), 6);
            due("BREATH 3", x.night(lane, lane, 1, 1), 4);
            due("BREATHS 3, 0", x.night(lane, lane, 1, 2), 4);
            due("BREATHS 3, 0, 2", x.night(lane, lane, 1, 3), 5);
            due("BREATHS 0, 2", x.night(lane, lane, 2, 2), 2);
            due("BREATHS 2, 18, 0", x.night(lane, lane, 3, 3), 4);
            due("six HOURS", x.night(lane, lane, 1, 6), 5);
            due("BREATHS are as they were", x.parts(1), 6);
            due("breath", x.breath(0, 9), 9);
            due("seven HOURS", x.night(lane, lane, 0, 7), OUTSIDE);
            due("BREATH 19", x.night(lane, lane, 6, 2), OUTSIDE);
            due("BREATH -1", x.night(lane, lane, 8, 1), OUTSIDE);
            due("fault", x.fault(), 0);
        }
    }

    private static void faultsOfNight() {
        UnsaidCalls x = new UnsaidCalls();
        x.sheet(1, 1, 5);
        x.put(1, 0, 19);
        int[][] calls = {
            // sheet, lane, i, n, answer, fault
            {-1, 9, 0, -1, UNKNOWN, 0}, {4, 1, 0, 5, UNKNOWN, 0}, {1, -1, 0, -1, OUTSIDE, 0}, {1, 3, 0, 5, OUTSIDE, 0},
            {1, 0, 0, -1, -12, 2}, {1, 2, 9, 9, -12, 2}, {0, 0, 0, -1, -11, 1}, {0, 2, 99, 5, -11, 1},
            {1, 1, 99, -1, -14, 4}, {1, 1, -1, 2, -13, 3}, {1, 1, 6, 0, -13, 3}, {1, 1, 0, 7, -13, 3},
            {1, 1, 2, Integer.MAX_VALUE, -13, 3}, {1, 1, 0, 1, STATE, 0}, {1, 1, 5, 0, STATE, 0}};
        for (int[] c : calls) {
            String call = "night(" + c[0] + ", " + c[1] + ", " + c[2] + ", " + c[3] + ")";
            x.put(2, 0, 0);
            due("a fault ahead of it", x.fault(), 1);
            due(call, x.night(c[0], c[1], c[2], c[3]), c[4]);
            due("fault of " + call, x.fault(), c[5]);
        }
    }
}
