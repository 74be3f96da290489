/** Promises 8 to 12: CALLS, what was HEARD, what is THOUGHT, what is sure, how likely the rest. */
public final class CallsTest extends Sentences {
    public static void main(String[] args) {
        new CallsTest().run();
    }

    @Override
    void all() {
        calls();
        order();
        breathRunsOut();
        words();
        heard();
        thought();
        sure();
        chance();
        leastTerms();
    }

    private static void callsDue(UnsaidCalls x, int[] cases, int... calls) {
        for (int c = 0; c < cases.length; c++) {
            due(x, "called(" + cases[c] + ", 4)", calls[c]);
        }
    }

    private static void calls() {
        UnsaidCalls x = Due.townOf(TOWN);
        int[] cases = {0, 1, 2, 3, 5, 7};
        says(8, "The CALL in a CASE in an HOUR.");
        callsDue(x, cases, 0, 0, 0, 0, 0, 0);
        ready(x, "list(4, 7)", "breath(4, 3)");
        callsDue(x, cases, 2, 2, 5, 4, 2, 0);
        due(x, "called(0, 3)", 0);
        due(x, "called(0, 5)", 0);
        says(8, "A CALL in a CASE in an HOUR: of the THINGS of the LIST that are not the case");
        ready(x, "breath(4, 18)");
        callsDue(x, cases, 7, 6, 5, 4, 2, 0);
        ready(x, "list(4, 5)");
        callsDue(x, cases, 5, 4, 5, 4, 0, 0);
        ready(x, "list(4, 0)");
        callsDue(x, cases, 0, 0, 0, 0, 0, 0);
        says(8, "The CALL is the set of those that were named.");
        UnsaidCalls six = Due.townOf("wd5d5d5d5d5d5");
        ready(six, "list(0, 63)", "breath(0, 18)");
        due(six, "called(0, 0)", 63);
        due(six, "called(63, 0)", 0);
        due(six, "called(31, 0)", 32);
        due(six, "called(32, 0)", 31);
    }

    /** Words 2, 1, 3, 2, 3, 1: named in the order 2, 4, 0, 1, 3, 5. */
    private static void order() {
        says(8, "the DREADED ones first, then the others (both by numbers)");
        UnsaidCalls x = Due.townOf("wl5t5d5l5d5t5");
        ready(x, "list(0, 63)");
        int[] calls = {0, 0, 0, 4, 4, 4, 20, 20, 21, 23, 23, 31, 63, 63};
        for (int b = 0; b < calls.length; b++) {
            ready(x, "breath(0, " + b + ")");
            due("called(0, 0) by BREATH " + b, x.called(0, 0), calls[b]);
        }
        ready(x, "breath(0, 18)");
        due(x, "called(0, 0)", 63);
    }

    private static void breathRunsOut() {
        UnsaidCalls x = Due.townOf("wl5t5d5");
        ready(x, "list(0, 7)");
        says(8, "each is named, as long as the words of all that are named are no more than the BREATH");
        int[] calls = {0, 0, 0, 4, 4, 5, 7, 7};
        for (int b = 0; b < calls.length; b++) {
            ready(x, "breath(0, " + b + ")");
            due("called(0, 0) by BREATH " + b, x.called(0, 0), calls[b]);
        }
        UnsaidCalls six = Due.townOf("wd5d5d5d5d5d5");
        ready(six, "list(0, 63)", "breath(0, 18)");
        due(six, "called(0, 0)", 63);
        ready(six, "breath(0, 17)");
        due(six, "called(0, 0)", 31);
        says(8, "he stops with the first that would be one too many.");
        ready(x, "breath(0, 2)");
        due(x, "called(0, 0)", 0);
        due(x, "called(4, 0)", 1);
        ready(x, "breath(0, 4)");
        due(x, "called(0, 0)", 4);
        due(x, "called(1, 0)", 6);
        ready(x, "breath(0, 1)");
        due(x, "called(4, 0)", 0);
        due(x, "called(5, 0)", 2);
    }

    private static void words() {
        says(8, "A THING is 1 word, a LONG one 2, a DREADED one 3.");
        UnsaidCalls x = Due.townOf("wt5l5d5");
        for (int t = 0; t < 3; t++) {
            due(x, "ofThing(" + t + ", 2)", t + 1);
            ready(x, "list(0, " + (1 << t) + ")", "breath(0, " + t + ")");
            due(x, "called(0, 0)", 0);
            ready(x, "breath(0, " + (t + 1) + ")");
            due(x, "called(0, 0)", 1 << t);
        }
    }

    private static void heard() {
        UnsaidCalls x = Due.townOf(TOWN);
        says(9, "HEARD is for an HOUR a set, or nothing (at first).");
        for (int hour = 0; hour < 6; hour++) {
            due(x, "hear(" + hour + ", -9)", NONE);
        }
        due(x, "many(2)", 0);
        says(9, "HEARD for an HOUR becomes a set, or nothing (NONE): what it was; NONE.");
        due(x, "hear(1, 5)", NONE);
        due(x, "many(2)", 1);
        due(x, "hear(1, 0)", 5);
        due(x, "many(2)", 1);
        due(x, "hear(1, -9)", 0);
        due(x, "many(2)", 0);
        due(x, "hear(1, 7)", NONE);
        due(x, "hear(1, 8)", OUTSIDE);
        due(x, "hear(1, 7)", 7);
        for (int hour = 0; hour < 6; hour++) {
            due(x, "hear(" + hour + ", " + hour + ")", hour == 1 ? 7 : NONE);
        }
        due(x, "many(2)", 6);
        due(x, "hear(5, -9)", 5);
        due(x, "hear(0, -9)", 0);
        due(x, "many(2)", 4);
        says(9, "NONE is -9.");
        due(x, "hear(4, -9)", 4);
        due(x, "hear(4, -9)", -9);
        due("the constant", UnsaidCalls.NONE, -9);
    }

    private static void thought() {
        UnsaidCalls x = Due.townOf(TOWN);
        says(10, "THOUGHT: CASES in which all CALLS of HOURS that were HEARD are just as HEARD.");
        due(x, "thought()", 0b10101111);
        ready(x, "hear(0, 0)");
        due(x, "thought()", 0b10101111);
        ready(x, "hear(0, 1)");
        due(x, "thought()", 0);
        ready(x, "list(0, 7)", "breath(0, 3)", "hear(0, 2)");
        due(x, "thought()", 0b100011);
        ready(x, "list(5, 1)", "hear(5, 1)");
        due(x, "thought()", 0b000001);
        ready(x, "hear(5, 0)");
        due(x, "thought()", 0b100010);
        ready(x, "breath(5, 0)");
        due(x, "thought()", 0b100011);
        ready(x, "hear(0, -9)");
        due(x, "thought()", 0b10101111);
        ready(x, "hear(0, 6)");
        due(x, "thought()", 0);
        says(10, "THOUGHT, as a set (of a long).");
        UnsaidCalls six = Due.townOf("wt5t5t5t5t5t5");
        due(six, "thought()", -1L);
        ready(six, "list(0, 63)", "hear(0, 0)");
        due(six, "thought()", Long.MIN_VALUE);
        ready(six, "hear(0, 31)");
        due(six, "thought()", 1L << 32);
        due(new UnsaidCalls(), "thought()", 0);
    }

    private static void sure() {
        UnsaidCalls x = Due.townOf(TOWN);
        says(11, "THINGS that are so in all CASES that are THOUGHT (what 0), in none (1), as a set");
        due(x, "sure(0)", 0);
        due(x, "sure(1)", 0);
        ready(x, "list(0, 7)", "breath(0, 3)", "hear(0, 2)");
        due(x, "sure(0)", 0);
        due(x, "sure(1)", 2);
        ready(x, "hear(0, 4)");
        due(x, "sure(0)", 3);
        due(x, "sure(1)", 4);
        ready(x, "hear(0, 0)");
        due(x, "sure(0)", 7);
        due(x, "sure(1)", 0);
        says(11, "(all of them, if none is THOUGHT)");
        ready(x, "hear(0, 6)");
        due(x, "thought()", 0);
        due(x, "sure(0)", 7);
        due(x, "sure(1)", 7);
        UnsaidCalls six = Due.townOf("wt5t5t5t5t5t5");
        ready(six, "hear(3, 1)");
        due(six, "sure(0)", 63);
        due(six, "sure(1)", 63);
    }

    private static void chanceDue(UnsaidCalls x, int t, long upper, long lower) {
        due(x, "chance(" + t + ", 0)", upper);
        due(x, "chance(" + t + ", 1)", lower);
    }

    private static void chance() {
        UnsaidCalls x = Due.townOf(TOWN);
        says(12, "How likely a THING is the case, by WEIGHTS of those THOUGHT (which 0 the upper, 1 the lower number");
        chanceDue(x, 0, 5, 17);
        chanceDue(x, 1, 9, 10);
        chanceDue(x, 2, 2, 17);
        ready(x, "list(0, 7)", "breath(0, 3)", "hear(0, 2)");
        chanceDue(x, 0, 5, 17);
        chanceDue(x, 1, 0, 1);
        chanceDue(x, 2, 2, 17);
        ready(x, "list(1, 1)", "hear(1, 0)");
        chanceDue(x, 0, 1, 1);
        chanceDue(x, 1, 0, 1);
        chanceDue(x, 2, 2, 5);
        says(12, "; 0 of 1, if there are none)");
        ready(x, "hear(0, 6)");
        due(x, "thought()", 0);
        chanceDue(x, 0, 0, 1);
        chanceDue(x, 2, 0, 1);
    }

    private static void leastTerms() {
        says(12, "Shares are told as upper and lower number (above 0) in least terms.");
        chanceDue(Due.townOf("wt5t2"), 0, 1, 2);
        chanceDue(Due.townOf("wt5t2"), 1, 1, 5);
        chanceDue(Due.townOf("wt9t9t9t9t9t9;01;10;12;21"), 0, 729, 730);
        UnsaidCalls one = Due.townOf("wt1t1");
        ready(one, "list(0, 3)", "hear(0, 0)");
        due(one, "thought()", 1L << 3);
        chanceDue(one, 0, 1, 1);
        ready(one, "list(0, 1)");
        due(one, "thought()", 1L << 1 | 1L << 3);
        chanceDue(one, 1, 1, 10);
        UnsaidCalls sure = Due.townOf("wt5t2");
        ready(sure, "list(0, 1)", "hear(0, 0)");
        chanceDue(sure, 0, 1, 1);
        ready(sure, "hear(0, 1)");
        chanceDue(sure, 0, 0, 1);
        says(15, "Shares are told as upper and lower number (above 0) in least terms.");
        due(sure, "words(1, 0)", 0);
        due(sure, "words(1, 1)", 1);
        due(sure, "words(0, 0)", 1);
        due(sure, "words(0, 1)", 2);
    }
}
