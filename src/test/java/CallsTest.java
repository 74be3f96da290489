/** Promises 8 to 12: CALLS, what was HEARD, what is THOUGHT, what is sure, how likely the rest. */
public final class CallsTest {
    private static final int UNKNOWN = -1, OUTSIDE = -2, STATE = -3, NONE = -9;
    private static final long LOST = Long.MIN_VALUE;

    public static void main(String[] args) {
        withoutTown();
        calls();
        dreadedFirst();
        hearing();
        thinking();
        hoursTogether();
        Due.end();
    }

    private static void due(String call, long got, long want) {
        Due.due(call, got, want);
    }

    private static void withoutTown() {
        UnsaidCalls x = new UnsaidCalls();
        due("called(0, 0)", x.called(0, 0), UNKNOWN);
        due("hear(0, 0)", x.hear(0, 0), STATE);
        due("hear(0, NONE)", x.hear(0, NONE), STATE);
        due("hear(0, 1)", x.hear(0, 1), OUTSIDE);
        due("hear(6, 1)", x.hear(6, 1), UNKNOWN);
        due("thought()", x.thought(), 0L);
        due("sure(0)", x.sure(0), STATE);
        due("sure(1)", x.sure(1), STATE);
        due("sure(2)", x.sure(2), OUTSIDE);
        due("sure(-1)", x.sure(-1), OUTSIDE);
        due("chance(0, 0)", x.chance(0, 0), LOST);
    }

    /** CASES 0, 1, 2, 3, 5, 7; words 1, 3, 2; THING 1 is named first. */
    private static void calls() {
        UnsaidCalls x = Due.townOf("wt2d9l4;20");
        int[] cases = {0, 1, 2, 3, 5, 7};
        int[][] byBreath = {
            // the BREATH, then the CALLS in these CASES
            {0, 0, 0, 0, 0, 0, 0}, {1, 0, 0, 1, 0, 0, 0}, {2, 0, 0, 1, 4, 0, 0}, {3, 2, 2, 5, 4, 2, 0},
            {4, 3, 2, 5, 4, 2, 0}, {5, 3, 6, 5, 4, 2, 0}, {6, 7, 6, 5, 4, 2, 0}, {18, 7, 6, 5, 4, 2, 0}};
        x.list(4, 7);
        for (int[] row : byBreath) {
            x.breath(4, row[0]);
            for (int c = 0; c < cases.length; c++) {
                due("called(" + cases[c] + ", 4) by BREATH " + row[0], x.called(cases[c], 4), row[c + 1]);
            }
        }
        x.list(4, 5);
        due("a LIST without 1", x.called(0, 4), 5);
        x.list(4, 0);
        due("a LIST of nothing", x.called(0, 4), 0);
        due("called(4, 4)", x.called(4, 4), UNKNOWN);
        due("called(6, 4)", x.called(6, 4), UNKNOWN);
        due("called(8, 4)", x.called(8, 4), UNKNOWN);
        due("called(-1, 4)", x.called(-1, 4), UNKNOWN);
        due("called(64, 4)", x.called(64, 4), UNKNOWN);
        due("called(0, 6)", x.called(0, 6), UNKNOWN);
        due("called(0, -1)", x.called(0, -1), UNKNOWN);
    }

    private static void dreadedFirst() {
        UnsaidCalls x = Due.townOf("wl5t5d5l5d5t5");
        x.list(0, 63);
        int[] calls = {0, 0, 0, 4, 4, 4, 20, 20, 21, 23, 23, 31, 63, 63};
        for (int b = 0; b < calls.length; b++) {
            x.breath(0, b);
            due("called(0, 0) by BREATH " + b, x.called(0, 0), calls[b]);
        }
        x.breath(0, 2);
        due("he stops with a DREADED one, though a THING would fit", x.called(0, 0), 0);
        due("without the DREADED ones", x.called(20, 0), 1);
    }

    private static void hearing() {
        UnsaidCalls x = Due.townOf("wt2d9l4;20");
        due("hear first", x.hear(1, 5), NONE);
        due("many HEARD", x.many(2), 1);
        due("hear next", x.hear(1, 0), 5);
        due("nothing named is HEARD, too", x.many(2), 1);
        due("hear nothing", x.hear(1, NONE), 0);
        due("hear nothing again", x.hear(1, NONE), NONE);
        due("none HEARD", x.many(2), 0);
        due("hear(6, 0)", x.hear(6, 0), UNKNOWN);
        due("hear(-1, NONE)", x.hear(-1, NONE), UNKNOWN);
        due("hear(1, 8)", x.hear(1, 8), OUTSIDE);
        due("hear(1, -8)", x.hear(1, -8), OUTSIDE);
        due("hear(1, -1)", x.hear(1, -1), OUTSIDE);
        due("unchanged", x.hear(1, 7), NONE);
        due("kept", x.hear(1, 8), OUTSIDE);
        due("still kept", x.hear(1, 7), 7);
        for (int hour = 0; hour < 6; hour++) {
            x.hear(hour, 0);
        }
        due("all HOURS", x.many(2), 6);
    }

    private static void chanceDue(UnsaidCalls x, int t, long upper, long lower) {
        due("chance(" + t + ", 0)", x.chance(t, 0), upper);
        due("chance(" + t + ", 1)", x.chance(t, 1), lower);
    }

    /** WEIGHTS 48, 12, 432, 108, 8, 72 of CASES 0, 1, 2, 3, 5, 7; CALLS 2, 2, 5, 4, 2, 0 by BREATH 3. */
    private static void thinking() {
        UnsaidCalls x = Due.townOf("wt2d9l4;20");
        due("thought of nothing HEARD", x.thought(), 0b10101111L);
        due("nothing is sure", x.sure(0), 0);
        due("nothing is out", x.sure(1), 0);
        chanceDue(x, 0, 5, 17);
        chanceDue(x, 1, 9, 10);
        chanceDue(x, 2, 2, 17);
        x.list(0, 7);
        x.breath(0, 3);
        x.hear(0, 2);
        due("thought", x.thought(), 0b100011L);
        due("sure(0)", x.sure(0), 0);
        due("sure(1)", x.sure(1), 2);
        chanceDue(x, 0, 5, 17);
        chanceDue(x, 1, 0, 1);
        chanceDue(x, 2, 2, 17);
        x.hear(0, 4);
        due("thought of one", x.thought(), 0b1000L);
        due("sure(0) of one", x.sure(0), 3);
        due("sure(1) of one", x.sure(1), 4);
        chanceDue(x, 0, 1, 1);
        chanceDue(x, 2, 0, 1);
        x.hear(0, 6);
        due("thought of none", x.thought(), 0L);
        due("sure(0) of none", x.sure(0), 7);
        due("sure(1) of none", x.sure(1), 7);
        chanceDue(x, 0, 0, 1);
        chanceDue(x, 2, 0, 1);
        due("sure(2)", x.sure(2), OUTSIDE);
        due("sure(-1)", x.sure(-1), OUTSIDE);
        due("chance(3, 0)", x.chance(3, 0), LOST);
        due("chance(-1, 0)", x.chance(-1, 0), LOST);
        due("chance(0, 2)", x.chance(0, 2), LOST);
        due("chance(0, -1)", x.chance(0, -1), LOST);
    }

    private static void hoursTogether() {
        UnsaidCalls x = Due.townOf("wt5t5t5");
        x.list(0, 1);
        x.list(5, 6);
        x.hear(0, 0);
        x.hear(5, 4);
        due("two HOURS", x.thought(), 1L << 3);
        x.breath(5, 1);
        due("BREATH as it is now", x.thought(), 1L << 3);
        x.hear(5, 2);
        due("out of breath", x.thought(), (1L << 1) | (1L << 5));
        x.list(5, 2);
        due("LIST as it is now", x.thought(), (1L << 1) | (1L << 5));
        x.hear(0, NONE);
        due("an HOUR no more HEARD", x.thought(), (1L << 0) | (1L << 1) | (1L << 4) | (1L << 5));
    }
}
