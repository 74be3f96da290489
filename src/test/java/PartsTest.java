/** Promises 13 to 15: PARTS, the BEST LIST, WORDS in the mean. */
public final class PartsTest extends Sentences {
    public static void main(String[] args) {
        new PartsTest().run();
    }

    @Override
    void all() {
        parts();
        partsOfSixHours();
        best();
        bestBehindOthers();
        leastOfSeveral();
        words();
    }

    private static void partsDue(UnsaidCalls x, int... parts) {
        for (int n = 0; n <= 6; n++) {
            due(x, "parts(" + n + ")", parts[n]);
        }
    }

    private static void parts() {
        UnsaidCalls x = Due.townOf(TOWN);
        says(13, "into how many parts CASES fall by the CALLS of HOURS 0 .. n less 1 together");
        partsDue(x, 1, 1, 1, 1, 1, 1, 1);
        ready(x, "list(0, 7)", "breath(0, 3)", "list(2, 4)", "list(5, 1)");
        partsDue(x, 1, 4, 4, 5, 5, 5, 6);
        ready(x, "hear(0, 5)", "reading(0, 0, 0)");
        partsDue(x, 1, 4, 4, 5, 5, 5, 6);
        says(13, "PARTS of HOURS 0 .. n less 1 (n 0 .. 6).");
        due(x, "parts(-1)", OUTSIDE);
        due(x, "parts(0)", 1);
        due(x, "parts(1)", 4);
        due(x, "parts(6)", 6);
        due(x, "parts(7)", OUTSIDE);
        says(13, "(two in one part, if all their CALLS are alike)");
        UnsaidCalls two = Due.townOf("wt5t5");
        ready(two, "list(0, 1)", "list(1, 1)", "list(2, 2)", "breath(2, 0)");
        partsDue(two, 1, 2, 2, 2, 2, 2, 2);
        ready(two, "breath(2, 1)");
        partsDue(two, 1, 2, 2, 4, 4, 4, 4);
        ready(two, "breath(0, 0)", "breath(1, 0)");
        partsDue(two, 1, 1, 1, 2, 2, 2, 2);
    }

    private static void partsOfSixHours() {
        says(13, "PARTS: into how many parts CASES fall by the CALLS of HOURS");
        UnsaidCalls x = Due.townOf("wd5d5d5d5d5d5");
        for (int hour = 0; hour < 6; hour++) {
            ready(x, "list(" + hour + ", " + (1 << 5 - hour) + ")");
        }
        partsDue(x, 1, 2, 4, 8, 16, 32, 64);
        ready(x, "breath(3, 2)");
        partsDue(x, 1, 2, 4, 8, 8, 16, 32);
        ready(x, "list(0, 63)", "breath(0, 18)");
        partsDue(x, 1, 64, 64, 64, 64, 64, 64);
        ready(x, "breath(0, 17)");
        due(x, "parts(1)", 63);
        ready(x, "breath(0, 9)", "list(0, 1)", "list(1, 32)", "list(2, 1)", "list(3, 32)");
        partsDue(x, 1, 2, 4, 4, 4, 8, 8);
        for (int hour = 0; hour < 6; hour++) {
            ready(x, "list(" + hour + ", " + (hour % 2 == 0 ? 33 : 48) + ")", "breath(" + hour + ", 18)");
        }
        partsDue(x, 1, 4, 8, 8, 8, 8, 8);
    }

    private static void bestDue(UnsaidCalls x, int hour, int set, int parts) {
        due(x, "best(" + hour + ", 0)", set);
        due(x, "best(" + hour + ", 1)", parts);
    }

    private static void best() {
        UnsaidCalls x = Due.townOf(TOWN);
        says(14, "BEST LIST for an HOUR: the set (what 0), PARTS then (1).");
        bestDue(x, 0, 7, 6);
        bestDue(x, 5, 7, 6);
        says(14, "BEST LIST for an HOUR: that LIST with its BREATH by which PARTS");
        ready(x, "breath(0, 3)");
        bestDue(x, 0, 7, 4);
        ready(x, "breath(0, 2)");
        bestDue(x, 0, 5, 3);
        ready(x, "breath(0, 0)");
        bestDue(x, 0, 0, 1);
        UnsaidCalls six = Due.townOf("wd5d5d5d5d5d5");
        bestDue(six, 0, 63, 42);
        ready(six, "breath(0, 18)");
        bestDue(six, 0, 63, 64);
        ready(six, "list(0, 63)");
        bestDue(six, 1, 0, 64);
        bestDue(six, 5, 0, 64);
    }

    private static void bestBehindOthers() {
        UnsaidCalls x = Due.townOf(TOWN);
        says(14, "of all HOURS up to it (LISTS ahead as they are) are the most");
        ready(x, "list(0, 7)", "breath(0, 3)");
        bestDue(x, 1, 5, 6);
        ready(x, "breath(1, 0)");
        bestDue(x, 1, 0, 4);
        bestDue(x, 2, 5, 6);
        ready(x, "list(1, 7)", "list(2, 2)", "list(5, 7)");
        bestDue(x, 1, 0, 4);
        bestDue(x, 0, 7, 4);
        bestDue(x, 2, 5, 6);
        due("the LIST stays", x.list(2, 2), 2);
        due("PARTS stay", x.parts(2), 4);
        ready(x, "list(0, 0)");
        bestDue(x, 1, 0, 1);
    }

    private static void leastOfSeveral() {
        says(14, "of several the least set.");
        bestDue(Due.townOf("wt5t5t5;01;10"), 0, 5, 4);
        bestDue(Due.townOf("wt5t5;01;10"), 0, 1, 2);
        UnsaidCalls x = Due.townOf("wt5t5t5");
        ready(x, "list(0, 2)");
        bestDue(x, 1, 5, 8);
        ready(x, "list(0, 7)");
        bestDue(x, 1, 0, 8);
    }

    private static void wordsDue(UnsaidCalls x, int hour, long upper, long lower) {
        due(x, "words(" + hour + ", 0)", upper);
        due(x, "words(" + hour + ", 1)", lower);
    }

    private static void words() {
        UnsaidCalls x = Due.townOf(TOWN);
        says(15, "WORDS (which 0 the upper, 1 the lower number).");
        wordsDue(x, 0, 0, 1);
        ready(x, "list(0, 7)", "breath(0, 3)");
        wordsDue(x, 0, 429, 170);
        wordsDue(x, 5, 0, 1);
        says(15, "WORDS: how many words the CALL of an HOUR has in the mean (by WEIGHTS of all CASES), as a share.");
        ready(x, "hear(0, 0)");
        wordsDue(x, 0, 429, 170);
        ready(x, "hear(0, 6)");
        due(x, "thought()", 0);
        wordsDue(x, 0, 429, 170);
        ready(x, "breath(0, 0)");
        wordsDue(x, 0, 0, 1);
        UnsaidCalls two = Due.townOf("wl9d9");
        ready(two, "list(1, 3)");
        wordsDue(two, 1, 1, 2);
        UnsaidCalls six = Due.townOf("wd1d1d1d1d1d1");
        ready(six, "list(0, 63)", "breath(0, 18)");
        wordsDue(six, 0, 81, 5);
    }
}
