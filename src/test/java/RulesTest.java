/** Promises 19 to 22: READINGS, taking them back, RULES, the CALLS of a night. */
public final class RulesTest extends Sentences {
    public static void main(String[] args) {
        new RulesTest().run();
    }

    @Override
    void all() {
        readings();
        back();
        rules();
        rulesOfAnHour();
        rulesByBreath();
        allRules();
        for (int lane = 0; lane < 3; lane++) {
            night(lane);
            breathsOfNight(lane);
        }
    }

    private static void readings() {
        UnsaidCalls x = Due.townOf(TOWN);
        says(19, "READINGS, 8 at most, each numbered by how many there are ahead of it (the first one 0)");
        for (int k = 0; k < 8; k++) {
            due(x, "many(3)", k);
            due(x, "reading(5, " + k % 6 + ", 7)", k);
        }
        due(x, "many(3)", 8);
        due(x, "reading(5, 0, 7)", FULL);
        due(x, "many(3)", 8);
        ready(x, "back(3)");
        due(x, "reading(0, 0, 0)", 5);
        due(x, "reading(0, 0, 0)", 6);
        due(x, "reading(0, 0, 0)", 7);
        due(x, "reading(0, 0, 0)", FULL);
        says(19, "A READING: its number.");
        UnsaidCalls other = Due.townOf("wt5t5t5t5t5t5");
        due(other, "reading(63, 5, 63)", 0);
        due(other, "reading(0, 0, 0)", 1);
        due(other, "reading(0, 0, 0)", 2);
        says(19, ": in a CASE a set was called in an HOUR.");
        due(other, "back(3)", 0);
        due(other, "reading(1, 5, 62)", 0);
        due(other, "rules(5, -1)", 2);
        due(other, "rules(5, 0)", 62);
        due(other, "rules(5, 1)", 63);
        due(other, "rules(4, -1)", 64);
        due(other, "reading(1, 5, 63)", 1);
        due(other, "rules(5, -1)", 0);
    }

    private static void back() {
        UnsaidCalls x = Due.townOf(TOWN);
        says(20, "The last k READINGS (0 .. as many as there are) are taken back: how many are left.");
        due(x, "back(0)", 0);
        due(x, "back(1)", OUTSIDE);
        ready(x, "reading(1, 1, 4)", "reading(2, 1, 5)", "reading(0, 1, 7)");
        due(x, "back(4)", OUTSIDE);
        due(x, "back(0)", 3);
        due(x, "rules(1, -1)", 0);
        due(x, "back(1)", 2);
        due(x, "rules(1, -1)", 1);
        due(x, "back(3)", OUTSIDE);
        due(x, "back(2)", 0);
        due(x, "rules(1, -1)", 8);
        due(x, "back(0)", 0);
        for (int k = 0; k < 8; k++) {
            ready(x, "reading(0, 0, 0)");
        }
        due(x, "back(9)", OUTSIDE);
        due(x, "back(8)", 0);
        due(x, "many(3)", 0);
        due(new UnsaidCalls(), "back(0)", 0);
        due(new UnsaidCalls(), "back(1)", OUTSIDE);
    }

    private static void rulesDue(UnsaidCalls x, int hour, int... lists) {
        due(x, "rules(" + hour + ", -1)", lists.length);
        for (int k = 0; k < lists.length; k++) {
            due(x, "rules(" + hour + ", " + k + ")", lists[k]);
        }
        due(x, "rules(" + hour + ", " + lists.length + ")", NONE);
        due(x, "rules(" + hour + ", MAX)", NONE);
    }

    private static void rules() {
        UnsaidCalls x = Due.townOf(TOWN);
        says(21, "RULES: how many (k -1), the k-th, rising; NONE: there are fewer.");
        rulesDue(x, 1, 0, 1, 2, 3, 4, 5, 6, 7);
        ready(x, "reading(1, 1, 4)");
        rulesDue(x, 1, 4, 5);
        ready(x, "reading(2, 1, 5)");
        rulesDue(x, 1, 5);
        ready(x, "reading(0, 1, 7)");
        rulesDue(x, 1);
        ready(x, "back(2)");
        rulesDue(x, 1, 4, 5);
    }

    private static void rulesOfAnHour() {
        UnsaidCalls x = Due.townOf(TOWN);
        says(21, "RULES of an HOUR: LISTS by which all READINGS of that HOUR are so");
        ready(x, "reading(1, 1, 4)", "reading(2, 0, 0)");
        rulesDue(x, 0, 0, 2);
        rulesDue(x, 1, 4, 5);
        rulesDue(x, 5, 0, 1, 2, 3, 4, 5, 6, 7);
        ready(x, "list(0, 5)", "list(1, 2)", "hear(1, 0)");
        rulesDue(x, 0, 0, 2);
        rulesDue(x, 1, 4, 5);
        ready(x, "reading(7, 5, 0)");
        rulesDue(x, 5, 0, 1, 2, 3, 4, 5, 6, 7);
        ready(x, "reading(7, 5, 1)");
        rulesDue(x, 5);
    }

    private static void rulesByBreath() {
        UnsaidCalls x = Due.townOf(TOWN);
        says(21, "(its BREATH as it is)");
        ready(x, "reading(0, 0, 2)");
        rulesDue(x, 0, 2);
        ready(x, "breath(0, 3)");
        rulesDue(x, 0, 2, 3, 6, 7);
        ready(x, "breath(0, 2)");
        rulesDue(x, 0);
        ready(x, "breath(1, 3)");
        rulesDue(x, 0);
        ready(x, "back(1)", "reading(0, 0, 0)", "breath(0, 0)");
        rulesDue(x, 0, 0, 1, 2, 3, 4, 5, 6, 7);
    }

    private static void allRules() {
        UnsaidCalls x = Due.townOf("wt5t5t5t5t5t5");
        says(21, "RULES: how many (k -1), the k-th, rising");
        due(x, "rules(0, -1)", 64);
        due(x, "rules(0, 0)", 0);
        due(x, "rules(0, 63)", 63);
        due(x, "rules(0, 64)", NONE);
        ready(x, "reading(0, 0, 63)");
        rulesDue(x, 0, 63);
    }

    /** Cells 5, 3, 0, 2, 18, 0, 0, 19, -1 of a SHEET of that number and LANE; LISTS 7, 1, 4 of HOURS 0, 1, 2. */
    private static UnsaidCalls readyForNight(int lane) {
        UnsaidCalls x = Due.townOf(TOWN);
        ready(x, "list(0, 7)", "list(1, 1)", "list(2, 4)", "sheet(" + lane + ", " + lane + ", 9)");
        int[] cells = {5, 3, 0, 2, 18, 0, 0, 19, -1};
        for (int i = 0; i < cells.length; i++) {
            x.put(lane, i, cells[i]);
        }
        return x;
    }

    /** By BREATH 2 the CALLS of LIST 7 are 0, 0, 1, 4, 0, 0 in CASES 0, 1, 2, 3, 5, 7. */
    private static void night(int lane) {
        UnsaidCalls x = readyForNight(lane);
        String row = "night(" + lane + ", " + lane + ", ";
        says(22, "CALLS of a night: n such cells are BREATHS of HOURS 0 .. n less 1, in place of what they are: PARTS of these HOURS then");
        due(x, row + "0, 0)", 1);
        due(x, row + "9, 0)", 1);
        due(x, row + "0, 1)", 6);
        due(x, row + "1, 1)", 4);
        due(x, row + "1, 2)", 4);
        due(x, row + "1, 3)", 5);
        due(x, row + "2, 2)", 2);
        due(x, row + "3, 3)", 4);
        due(x, row + "4, 1)", 6);
        due(x, row + "1, 6)", 5);
        says(22, "(behind it BREATHS are as they were)");
        for (int hour = 0; hour < 6; hour++) {
            due(x, "breath(" + hour + ", " + hour + ")", 9);
        }
        due(x, row + "0, 6)", 6);
        for (int hour = 0; hour < 6; hour++) {
            due(x, "breath(" + hour + ", " + hour + ")", hour);
        }
        due(x, "parts(1)", 1);
        due(x, "parts(2)", 2);
        due(x, "parts(3)", 3);
    }

    private static void breathsOfNight(int lane) {
        UnsaidCalls x = readyForNight(lane);
        String row = "night(" + lane + ", " + lane + ", ";
        says(22, "OUTSIDE: n above 6, a BREATH.");
        due(x, row + "0, 6)", 6);
        due(x, row + "0, 7)", OUTSIDE);
        due(x, row + "0, 9)", OUTSIDE);
        due(x, row + "7, 1)", OUTSIDE);
        due(x, row + "8, 1)", OUTSIDE);
        due(x, row + "6, 1)", 1);
        due(x, row + "6, 2)", OUTSIDE);
        due(x, row + "2, 6)", OUTSIDE);
        due(x, row + "7, 0)", 1);
        due(x, "fault()", 0);
        ready(x, "put(" + lane + ", 0, 0)", "put(" + lane + ", 1, 18)", "put(" + lane + ", 2, 19)", "put(" + lane + ", 3, -1)");
        due(x, row + "0, 2)", 2);
        due(x, row + "0, 3)", OUTSIDE);
        due(x, row + "3, 1)", OUTSIDE);
        ready(x, "put(" + lane + ", 0, 256)");
        due(x, row + "0, 1)", lane == 0 ? 1 : OUTSIDE);
        ready(x, "put(" + lane + ", 0, 65536)");
        due(x, row + "0, 1)", lane < 2 ? 1 : OUTSIDE);
    }
}
