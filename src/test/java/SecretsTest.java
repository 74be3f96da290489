/** Promises 16 to 18: the SECRET, the SHORTEST LIST, TWO watchmen. */
public final class SecretsTest {
    private static final int UNKNOWN = -1, OUTSIDE = -2, STATE = -3, NONE = -9;

    public static void main(String[] args) {
        withoutTown();
        secret();
        secretByBreath();
        refusedSecrets();
        shortest();
        two();
        Due.end();
    }

    private static void due(String call, long got, long want) {
        Due.due(call, got, want);
    }

    private static void withoutTown() {
        UnsaidCalls x = new UnsaidCalls();
        due("secret(0, 0, 0, 0)", x.secret(0, 0, 0, 0), UNKNOWN);
        due("shortest(0, 0)", x.shortest(0, 0), UNKNOWN);
        due("two(0, 0, 0)", x.two(0, 0, 0), STATE);
        due("two(1, 0, 0)", x.two(1, 0, 0), OUTSIDE);
        due("two(0, 1, 0)", x.two(0, 1, 0), OUTSIDE);
        due("two(1, 0, 6)", x.two(1, 0, 6), UNKNOWN);
    }

    /** If 2 is so, 0 is so; CASES 0, 1, 2, 3, 5, 7. */
    private static void secret() {
        UnsaidCalls x = Due.townOf("wt2d9l4;20");
        due("friends see that 0 is not so: 2 is not", x.secret(2, 1, 2, 0), 0);
        due("friends see t itself", x.secret(2, 2, 1, 0), 0);
        due("what friends hear, the thief hears", x.secret(2, 1, 1, 0), NONE);
        due("friends who know nothing", x.secret(2, 0, 1, 0), NONE);
        due("friends see that 2 is so: 0 is", x.secret(5, 4, 0, 0), 0);
        due("friends see that 2 is not so: 0 may be", x.secret(1, 4, 0, 0), NONE);
        x.hear(0, 5);
        due("nothing of what was HEARD", x.secret(2, 1, 1, 0), NONE);
    }

    /** By BREATH 2 THING 1 cannot be named: if it is not so, all of the LIST {0, 1} stays unsaid. */
    private static void secretByBreath() {
        UnsaidCalls x = Due.townOf("wt5d5");
        x.breath(2, 2);
        due("friends know that 0 would be named", x.secret(0, 1, 1, 2), 3);
        due("named: the thief knows, too", x.secret(2, 1, 1, 2), NONE);
        due("0 is so: nobody knows", x.secret(1, 1, 1, 2), NONE);
        x.list(2, 1);
        due("the HOUR's LIST counts for nothing", x.secret(0, 1, 1, 2), 3);
        due("by the BREATH of another HOUR", x.secret(0, 1, 1, 3), NONE);
        UnsaidCalls more = Due.townOf("wt5d5t5d5");
        more.breath(0, 2);
        due("the least of several", more.secret(0, 5, 3, 0), 9);
        due("friends of 2 alone", more.secret(0, 4, 3, 0), 12);
    }

    private static void refusedSecrets() {
        UnsaidCalls x = Due.townOf("wt2d9l4;20");
        due("no CASE", x.secret(4, 8, 0, 0), UNKNOWN);
        due("CASE -1", x.secret(-1, 0, 0, 0), UNKNOWN);
        due("THING 3", x.secret(0, 8, 3, 0), UNKNOWN);
        due("THING -1", x.secret(0, 0, -1, 0), UNKNOWN);
        due("HOUR 6", x.secret(0, 8, 0, 6), UNKNOWN);
        due("HOUR -1", x.secret(0, 0, 0, -1), UNKNOWN);
        due("friends of no THING", x.secret(0, 8, 0, 0), OUTSIDE);
        due("friends -1", x.secret(0, -1, 0, 0), OUTSIDE);
    }

    private static void shortest() {
        UnsaidCalls x = Due.townOf("wt2d9l4;20");
        for (int t = 0; t < 3; t++) {
            due("shortest(" + t + ", 0)", x.shortest(t, 0), 1 << t);
        }
        x.breath(1, 2);
        due("a THING fits", x.shortest(0, 1), 1);
        due("a DREADED one is too long", x.shortest(1, 1), NONE);
        due("a LONG one fits", x.shortest(2, 1), 4);
        x.breath(1, 1);
        due("a LONG one is too long", x.shortest(2, 1), NONE);
        x.breath(1, 0);
        due("no breath", x.shortest(0, 1), NONE);
        x.hear(0, 5);
        x.list(1, 7);
        due("nothing of what was HEARD", x.shortest(0, 1), NONE);
        due("shortest(3, 0)", x.shortest(3, 0), UNKNOWN);
        due("shortest(-1, 0)", x.shortest(-1, 0), UNKNOWN);
        due("shortest(0, 6)", x.shortest(0, 6), UNKNOWN);
        due("shortest(0, -1)", x.shortest(0, -1), UNKNOWN);
        UnsaidCalls alike = Due.townOf("wt5t5d5;01;10;02;20");
        due("one that is alike: the least set", alike.shortest(1, 0), 1);
        alike.breath(0, 2);
        due("another one tells what is too long", alike.shortest(2, 0), 1);
        UnsaidCalls dreaded = Due.townOf("wd5t5t5;02;20");
        dreaded.breath(0, 1);
        due("fewer THINGS", dreaded.shortest(0, 0), 4);
    }

    private static void two() {
        UnsaidCalls x = Due.townOf("wt2d9l4;20");
        due("two(0, 0, 0)", x.two(0, 0, 0), 1);
        due("two(7, 0, 0)", x.two(7, 0, 0), 6);
        due("two(1, 4, 0)", x.two(1, 4, 0), 3);
        due("two(4, 1, 0)", x.two(4, 1, 0), 3);
        due("two(1, 1, 0)", x.two(1, 1, 0), 2);
        x.breath(3, 3);
        due("each has all the BREATH", x.two(7, 5, 3), 6);
        due("one alone", x.two(7, 7, 3), 4);
        x.list(3, 7);
        due("the HOUR's LIST counts for nothing", x.two(2, 2, 3), 2);
        due("two(8, 0, 0)", x.two(8, 0, 0), OUTSIDE);
        due("two(0, 8, 0)", x.two(0, 8, 0), OUTSIDE);
        due("two(-1, 0, 0)", x.two(-1, 0, 0), OUTSIDE);
        due("two(8, 0, 6)", x.two(8, 0, 6), UNKNOWN);
        due("two(0, 0, -1)", x.two(0, 0, -1), UNKNOWN);
    }
}
