/** Promises 13 to 15: PARTS, the BEST LIST, WORDS in the mean. */
public final class PartsTest {
    private static final int UNKNOWN = -1, OUTSIDE = -2, STATE = -3;
    private static final long LOST = Long.MIN_VALUE;

    public static void main(String[] args) {
        withoutTown();
        parts();
        best();
        bestOfAll();
        words();
        Due.end();
    }

    private static void due(String call, long got, long want) {
        Due.due(call, got, want);
    }

    private static void withoutTown() {
        UnsaidCalls x = new UnsaidCalls();
        due("parts(0)", x.parts(0), STATE);
        due("parts(7)", x.parts(7), OUTSIDE);
        due("best(0, 0)", x.best(0, 0), STATE);
        due("best(0, 2)", x.best(0, 2), OUTSIDE);
        due("best(6, 2)", x.best(6, 2), UNKNOWN);
        due("words(0, 0)", x.words(0, 0), LOST);
    }

    /** CASES 0, 1, 2, 3, 5, 7. */
    private static void parts() {
        UnsaidCalls x = Due.townOf("wt2d9l4;20");
        for (int n = 0; n <= 6; n++) {
            due("LISTS of nothing: parts(" + n + ")", x.parts(n), 1);
        }
        x.list(0, 7);
        x.breath(0, 3);
        x.list(2, 4);
        x.list(5, 1);
        int[] parts = {1, 4, 4, 5, 5, 5, 6};
        for (int n = 0; n <= 6; n++) {
            due("parts(" + n + ")", x.parts(n), parts[n]);
        }
        x.hear(0, 5);
        due("HEARD parts nothing", x.parts(6), 6);
        due("parts(7)", x.parts(7), OUTSIDE);
        due("parts(-1)", x.parts(-1), OUTSIDE);
        UnsaidCalls six = Due.townOf("wd5d5d5d5d5d5");
        for (int hour = 0; hour < 6; hour++) {
            six.list(hour, 1 << hour);
            due("one more DREADED one", six.parts(hour + 1), 2L << hour);
        }
        six.breath(3, 2);
        due("one of them never named", six.parts(6), 32);
    }

    private static void best() {
        UnsaidCalls x = Due.townOf("wt2d9l4;20");
        due("best(0, 0)", x.best(0, 0), 7);
        due("best(0, 1)", x.best(0, 1), 6);
        x.breath(0, 3);
        due("best(0, 0) by BREATH 3", x.best(0, 0), 7);
        due("best(0, 1) by BREATH 3", x.best(0, 1), 4);
        x.list(0, 7);
        due("best(1, 0)", x.best(1, 0), 5);
        due("best(1, 1)", x.best(1, 1), 6);
        x.breath(1, 0);
        due("best(1, 0) without breath: the least set", x.best(1, 0), 0);
        due("best(1, 1) without breath", x.best(1, 1), 4);
        x.list(1, 7);
        due("its own LIST counts for nothing", x.best(1, 0), 0);
        due("best(2, 0)", x.best(2, 0), 5);
        due("nothing was changed", x.list(1, 0), 7);
        due("best(6, 0)", x.best(6, 0), UNKNOWN);
        due("best(-1, 0)", x.best(-1, 0), UNKNOWN);
        due("best(0, 2)", x.best(0, 2), OUTSIDE);
        due("best(0, -1)", x.best(0, -1), OUTSIDE);
    }

    private static void bestOfAll() {
        UnsaidCalls x = Due.townOf("wd5d5d5d5d5d5");
        due("all of them: BREATH 9 names three", x.best(0, 1), 42);
        x.breath(0, 18);
        due("best(0, 0)", x.best(0, 0), 63);
        due("best(0, 1)", x.best(0, 1), 64);
        UnsaidCalls alike = Due.townOf("wt5t5t5;01;10");
        due("one of two that are alike: the least set", alike.best(0, 0), 5);
        due("its PARTS", alike.best(0, 1), 4);
    }

    /** WEIGHTS 48, 12, 432, 108, 8, 72 (680 in all). */
    private static void words() {
        UnsaidCalls x = Due.townOf("wt2d9l4;20");
        due("no words, upper", x.words(0, 0), 0);
        due("no words, lower", x.words(0, 1), 1);
        x.list(0, 7);
        x.breath(0, 3);
        due("words(0, 0)", x.words(0, 0), 429);
        due("words(0, 1)", x.words(0, 1), 170);
        x.hear(0, 0);
        due("all CASES, not those THOUGHT", x.words(0, 0), 429);
        UnsaidCalls sure = Due.townOf("wl9d9");
        sure.list(1, 3);
        due("2/10 + 3/10", sure.words(1, 0), 1);
        due("in least terms", sure.words(1, 1), 2);
        due("words(6, 0)", x.words(6, 0), LOST);
        due("words(-1, 0)", x.words(-1, 0), LOST);
        due("words(0, 2)", x.words(0, 2), LOST);
        due("words(0, -1)", x.words(0, -1), LOST);
    }
}
