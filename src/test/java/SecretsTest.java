/** Promises 16 to 18: the SECRET, the SHORTEST LIST, TWO watchmen. */
public final class SecretsTest extends Sentences {
    public static void main(String[] args) {
        new SecretsTest().run();
    }

    @Override
    void all() {
        friendsKnow();
        thiefDoesNot();
        leastList();
        byBreath();
        nothingHeard();
        shortest();
        shortestByBreath();
        two();
        twoByBreath();
    }

    private static void friendsKnow() {
        UnsaidCalls x = Due.townOf(TOWN);
        says(16, "friends, who know of a set of THINGS whether each is the case");
        due(x, "secret(2, 1, 2, 0)", 0);
        due(x, "secret(5, 4, 0, 0)", 0);
        due(x, "secret(1, 4, 0, 0)", NONE);
        due(x, "secret(2, 2, 1, 0)", 0);
        due(x, "secret(2, 0, 1, 0)", NONE);
        due(x, "secret(2, 7, 1, 0)", 0);
        due(x, "secret(0, 7, 2, 0)", 0);
        says(16, ", know of a THING whether it is");
        due(x, "secret(7, 2, 1, 0)", 0);
        due(x, "secret(5, 2, 1, 0)", 0);
        due(x, "secret(5, 5, 1, 0)", NONE);
        says(16, "(One knows it, if it is alike in all CASES that one can think.)");
        due(x, "secret(7, 4, 0, 0)", 0);
        due(x, "secret(3, 1, 2, 0)", NONE);
        due(x, "secret(2, 5, 2, 0)", 0);
    }

    private static void thiefDoesNot() {
        UnsaidCalls x = Due.townOf("wt5t5");
        says(16, ", and one who hears that CALL, but knows nothing else, does not.");
        due(x, "secret(0, 0, 0, 0)", NONE);
        due(x, "secret(3, 0, 0, 0)", NONE);
        due(x, "secret(0, 2, 0, 0)", NONE);
        due(x, "secret(0, 1, 0, 0)", 0);
        UnsaidCalls alike = Due.townOf("wt5t5;01;10");
        due(alike, "secret(0, 2, 0, 0)", 0);
        due(alike, "secret(3, 2, 0, 0)", 0);
        due(alike, "secret(3, 0, 0, 0)", NONE);
        UnsaidCalls six = Due.townOf("wt5t5t5t5t5t5");
        due(six, "secret(0, 32, 5, 5)", 0);
        due(six, "secret(63, 31, 5, 5)", NONE);
        due(six, "secret(63, 63, 0, 5)", 0);
    }

    /** By BREATH 2 a DREADED one cannot be named: if it is not so, all of its LIST stays unsaid. */
    private static void leastList() {
        says(16, "SECRET: the least LIST for an HOUR by whose CALL in a CASE");
        UnsaidCalls x = Due.townOf("wt5d5t5d5");
        ready(x, "breath(0, 2)");
        due(x, "secret(0, 5, 3, 0)", 9);
        due(x, "secret(0, 4, 3, 0)", 12);
        due(x, "secret(0, 1, 3, 0)", 9);
        due(x, "secret(0, 8, 3, 0)", 0);
        due(x, "secret(0, 2, 3, 0)", NONE);
        says(16, "SECRET; NONE.");
        UnsaidCalls all = Due.townOf(TOWN);
        due(all, "secret(2, 1, 2, 0)", 0);
        due(all, "secret(2, 1, 1, 0)", NONE);
    }

    private static void byBreath() {
        says(16, "the least LIST for an HOUR by whose CALL in a CASE");
        UnsaidCalls x = Due.townOf("wt5d5");
        ready(x, "breath(2, 2)");
        due(x, "secret(0, 1, 1, 2)", 3);
        due(x, "secret(2, 1, 1, 2)", NONE);
        due(x, "secret(1, 1, 1, 2)", NONE);
        ready(x, "list(2, 1)");
        due(x, "secret(0, 1, 1, 2)", 3);
        due(x, "secret(0, 1, 1, 3)", NONE);
        due(x, "secret(0, 1, 1, 1)", NONE);
        ready(x, "breath(2, 0)");
        due(x, "secret(0, 1, 1, 2)", NONE);
    }

    private static void nothingHeard() {
        says(16, "(and nothing of what was HEARD)");
        UnsaidCalls x = Due.townOf("wt5t5");
        ready(x, "list(0, 3)", "hear(0, 3)");
        due(x, "thought()", 1);
        due(x, "secret(0, 0, 0, 0)", NONE);
        due(x, "secret(0, 1, 0, 0)", 0);
        ready(x, "hear(0, -9)", "hear(1, 1)");
        due(x, "thought()", 0);
        due(x, "secret(0, 1, 0, 0)", 0);
    }

    private static void shortest() {
        UnsaidCalls x = Due.townOf(TOWN);
        says(17, "SHORTEST; NONE.");
        due(x, "shortest(0, 0)", 1);
        due(x, "shortest(1, 0)", 2);
        due(x, "shortest(2, 5)", 4);
        ready(x, "breath(5, 0)");
        due(x, "shortest(2, 5)", NONE);
        says(17, "SHORTEST: the LIST of the fewest THINGS");
        UnsaidCalls dreaded = Due.townOf("wd5t5t5;02;20");
        ready(dreaded, "breath(0, 1)");
        due(dreaded, "shortest(0, 0)", 4);
        says(17, ": of several the least set.");
        UnsaidCalls alike = Due.townOf("wt5t5d5;01;10;02;20");
        for (int t = 0; t < 3; t++) {
            due(alike, "shortest(" + t + ", 0)", 1);
        }
        UnsaidCalls last = Due.townOf("wt5t5t5t5t5t5;45;54");
        due(last, "shortest(5, 0)", 16);
        due(last, "shortest(4, 0)", 16);
        due(last, "shortest(3, 0)", 8);
        UnsaidCalls six = Due.townOf("wt5t5t5t5t5t5");
        for (int t = 0; t < 6; t++) {
            due(six, "shortest(" + t + ", 5)", 1 << t);
        }
    }

    private static void shortestByBreath() {
        UnsaidCalls x = Due.townOf(TOWN);
        says(17, "by whose CALL in an HOUR in each CASE one knows of a THING whether it is the case");
        int[][] byBreath = {{NONE, NONE, NONE}, {1, NONE, NONE}, {1, NONE, 4}, {1, 2, 4}, {1, 2, 4}};
        for (int b = 0; b < byBreath.length; b++) {
            ready(x, "breath(1, " + b + ")");
            for (int t = 0; t < 3; t++) {
                due(x, "shortest(" + t + ", 1)", byBreath[b][t]);
            }
        }
        ready(x, "breath(1, 0)", "list(1, 7)", "hear(0, 5)");
        due(x, "shortest(0, 1)", NONE);
        due(x, "shortest(0, 0)", 1);
        UnsaidCalls alike = Due.townOf("wt5t5d5;02;20");
        ready(alike, "breath(0, 2)");
        due(alike, "shortest(2, 0)", 1);
        UnsaidCalls follows = Due.townOf("wt5t5;01");
        due(follows, "shortest(0, 0)", 1);
        due(follows, "shortest(1, 0)", 2);
        UnsaidCalls half = Due.townOf("wt5d5");
        ready(half, "breath(0, 2)");
        due(half, "shortest(1, 0)", NONE);
    }

    private static void two() {
        UnsaidCalls x = Due.townOf(TOWN);
        says(18, "TWO: into how many parts CASES fall by the CALLS of two LISTS at once in an HOUR.");
        due(x, "two(0, 0, 0)", 1);
        due(x, "two(7, 0, 0)", 6);
        due(x, "two(0, 7, 0)", 6);
        due(x, "two(1, 4, 0)", 3);
        due(x, "two(4, 1, 0)", 3);
        due(x, "two(1, 1, 0)", 2);
        due(x, "two(7, 7, 0)", 6);
        UnsaidCalls six = Due.townOf("wt5t5t5t5t5t5");
        due(six, "two(63, 63, 5)", 64);
        due(six, "two(56, 7, 5)", 64);
        due(six, "two(56, 3, 5)", 32);
        due(six, "two(1, 32, 5)", 4);
        due(six, "two(32, 1, 5)", 4);
    }

    private static void twoByBreath() {
        UnsaidCalls x = Due.townOf(TOWN);
        says(18, "TWO.");
        ready(x, "breath(3, 3)", "list(3, 7)", "list(0, 7)", "hear(3, 0)");
        due(x, "two(7, 5, 3)", 6);
        due(x, "two(7, 7, 3)", 4);
        due(x, "two(2, 2, 3)", 2);
        due(x, "two(2, 4, 3)", 4);
        ready(x, "breath(3, 0)");
        due(x, "two(7, 7, 3)", 1);
    }
}
