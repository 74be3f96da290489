import java.util.Arrays;

/** Runs of made-up calls (always the same ones), each answer held against a second reading of the document. */
public final class OracleTest {
    private static final int RUNS = 1200;
    private static final int CALLS = 240;
    private static final String[] NAMES = {"", "", "town", "ofThing", "cases", "weight", "list", "breath", "called", "hear",
        "thought", "sure", "chance", "parts", "best", "words", "secret", "shortest", "two", "reading", "back", "rules",
        "night", "sheet", "lose", "put", "cell", "copy", "tell", "fear", "as", "trace", "fault", "many"};

    private long seed;
    private final int[] answered = new int[NAMES.length];
    private final int[] refused = new int[NAMES.length];
    /** The LANES of the SHEETS, -1 for nothing: so that most calls take a row as what it is. */
    private final int[] lanes = new int[4];

    public static void main(String[] args) {
        OracleTest test = new OracleTest();
        for (int run = 0; run < RUNS; run++) {
            test.oneRun(run);
        }
        for (int p = 2; p < NAMES.length; p++) {
            Due.due("answers seen of " + NAMES[p] + " above 100", test.answered[p] > 100 ? 1 : 0, 1);
            boolean mayRefuse = p != 4 && p != 10 && p != 31 && p != 32;
            Due.due("refusals seen of " + NAMES[p], !mayRefuse || test.refused[p] > 20 ? 1 : 0, 1);
        }
        Due.end();
    }

    private int below(int bound) {
        seed = seed * 6364136223846793005L + 1442695040888963407L;
        return (int) ((seed >>> 33) % bound);
    }

    /** Mostly 0 .. bound less 1, at times beside it or far off. */
    private int about(int bound) {
        int way = below(40);
        if (way == 0) {
            return -1 - below(2);
        }
        if (way == 1) {
            return bound + below(3);
        }
        if (way == 2) {
            int[] far = {Integer.MIN_VALUE, Integer.MAX_VALUE, -9, -100, 64, 1 << 20, Integer.MIN_VALUE + 1};
            return far[below(far.length)];
        }
        return below(Math.max(1, bound));
    }

    private String someText() {
        StringBuilder text = new StringBuilder("w");
        int things = 2 + below(5);
        int alike = below(4);
        for (int t = 0; t < things; t++) {
            text.append("tld".charAt(alike == 0 ? 2 : below(3))).append((char) ('1' + below(9)));
        }
        int follows = below(5);
        for (int f = 0; f < follows; f++) {
            int a = below(things);
            int b = (a + 1 + below(things - 1)) % things;
            text.append(';').append(a).append(b);
        }
        return text.toString();
    }

    private String someBadText() {
        StringBuilder text = new StringBuilder(someText());
        int p = below(text.length());
        String codes = "wtld;0123456789 ?:/";
        switch (below(4)) {
            case 0:
                text.setLength(p);
                break;
            case 1:
                text.setCharAt(p, codes.charAt(below(codes.length())));
                break;
            case 2:
                text.insert(p, codes.charAt(below(codes.length())));
                break;
            default:
                text.append(someText().substring(1));
                break;
        }
        return text.toString();
    }

    private void oneRun(int run) {
        seed = 7919L * run + 1;
        UnsaidCalls x = new UnsaidCalls();
        Oracle oracle = new Oracle();
        Arrays.fill(lanes, -1);
        for (int k = 0; k < CALLS; k++) {
            int way = below(60);
            if (k == 30 || way == 0) {
                k += give(run, x, oracle, below(4), way % 2 == 0 ? someText() : someBadText());
            } else if (way == 1) {
                k += give(run, x, oracle, below(4), someBadText());
            } else {
                int promise = 2 + below(32);
                if (promise == 2 && below(3) > 0) {
                    promise = 9;
                }
                asked(run, x, oracle, promise, argumentsOf(promise, x.many(0), x));
            }
        }
    }

    /** Writes a TEXT into cells of a SHEET and takes it: how many calls that were. */
    private int give(int run, UnsaidCalls x, Oracle oracle, int sheet, String text) {
        int lane = below(3);
        int from = below(3);
        int size = Math.min(60, text.length() + from + below(2));
        asked(run, x, oracle, 23, new int[] {sheet, lane, size, 0, 0});
        int calls = 2;
        for (int i = 0; i < text.length() && from + i < size; i++) {
            asked(run, x, oracle, 25, new int[] {sheet, from + i, text.charAt(i), 0, 0});
            calls++;
        }
        asked(run, x, oracle, 2, new int[] {sheet, lane, from, Math.min(text.length(), size - from), 0});
        return calls;
    }

    private int[] argumentsOf(int promise, int things, UnsaidCalls x) {
        int sets = 1 << things;
        switch (promise) {
            case 3:
            case 30:
                return new int[] {about(things), about(3), 0, 0, 0};
            case 5:
                return new int[] {about(sets), 0, 0, 0, 0};
            case 6:
                return new int[] {about(6), below(3) == 0 ? sets - 1 : about(sets), 0, 0, 0};
            case 7:
                return new int[] {about(6), about(19), 0, 0, 0};
            case 8:
                return new int[] {about(sets), about(6), 0, 0, 0};
            case 9:
                return new int[] {about(6), likelyHeard(x, sets), 0, 0, 0};
            case 11:
                return new int[] {about(2), 0, 0, 0, 0};
            case 12:
            case 17:
                return new int[] {about(things), about(promise == 12 ? 2 : 6), 0, 0, 0};
            case 13:
                return new int[] {about(7), 0, 0, 0, 0};
            case 14:
            case 15:
                return new int[] {about(6), about(2), 0, 0, 0};
            case 16:
                return new int[] {about(sets), about(sets), about(things), about(6), 0};
            case 18:
                return new int[] {about(sets), about(sets), about(6), 0, 0};
            case 19:
                return likelyReading(x, sets);
            case 20:
                return new int[] {below(3) == 0 ? about(9) : about(2), 0, 0, 0, 0};
            case 21:
                return new int[] {about(6), below(3) == 0 ? -1 : about(1 + below(sets)), 0, 0, 0};
            default:
                return argumentsOfSheets(promise, things, x);
        }
    }

    private int[] argumentsOfSheets(int promise, int things, UnsaidCalls x) {
        int k = about(4);
        int lane = below(6) == 0 || k < 0 || k > 3 || lanes[k] < 0 ? about(3) : lanes[k];
        switch (promise) {
            case 2:
                return new int[] {k, lane, about(3), about(14), 0};
            case 22:
                return new int[] {k, lane, about(4), about(5), 0};
            case 23:
                return new int[] {k, about(3), below(3) == 0 ? about(61) : about(9), 0, 0};
            case 24:
                return new int[] {k, 0, 0, 0, 0};
            case 25:
                return new int[] {k, about(6), below(3) == 0 ? about(1 << 17) : about(19), 0, 0};
            case 26:
                return new int[] {k, about(8), lane, 0, 0};
            case 27:
                return new int[] {k, about(4), below(3) == 0 ? k : about(4), about(4), about(4)};
            case 28:
            case 29:
                return new int[] {about(things), 0, 0, 0, 0};
            default:
                return new int[] {about(4), 0, 0, 0, 0};
        }
    }

    /** A set that would be called in some CASE, so that something is THOUGHT more often. */
    private int likelyHeard(UnsaidCalls x, int sets) {
        int way = below(6);
        int call = x.called(below(sets), below(6));
        return way == 0 ? -9 : way == 1 || call < 0 ? about(sets) : call;
    }

    private int[] likelyReading(UnsaidCalls x, int sets) {
        int c = about(sets);
        int hour = about(6);
        int call = x.called(c, hour);
        return new int[] {c, hour, below(5) == 0 || call < 0 ? about(sets) : call, 0, 0};
    }

    private void asked(int run, UnsaidCalls x, Oracle oracle, int promise, int[] a) {
        long want = oracle.call(promise, a[0], a[1], a[2], a[3], a[4]);
        long got = answerOf(x, promise, a);
        if (want >= 0 && (promise == 23 || promise == 24)) {
            lanes[a[0]] = promise == 23 ? a[1] : -1;
        }
        String call = "promise " + promise + ", run " + run + ": " + NAMES[promise] + Arrays.toString(a);
        Due.due(call, got, want);
        boolean refusal = want == Long.MIN_VALUE || promise != 4 && promise != 10 && want < 0;
        (refusal ? refused : answered)[promise]++;
        Due.due("promise 32, fault() behind " + call, x.fault(), oracle.call(32, 0, 0, 0, 0, 0));
    }

    private static long answerOf(UnsaidCalls x, int promise, int[] a) {
        switch (promise) {
            case 2: return x.town(a[0], a[1], a[2], a[3]);
            case 3: return x.ofThing(a[0], a[1]);
            case 4: return x.cases();
            case 5: return x.weight(a[0]);
            case 6: return x.list(a[0], a[1]);
            case 7: return x.breath(a[0], a[1]);
            case 8: return x.called(a[0], a[1]);
            case 9: return x.hear(a[0], a[1]);
            case 10: return x.thought();
            case 11: return x.sure(a[0]);
            case 12: return x.chance(a[0], a[1]);
            case 13: return x.parts(a[0]);
            case 14: return x.best(a[0], a[1]);
            case 15: return x.words(a[0], a[1]);
            case 16: return x.secret(a[0], a[1], a[2], a[3]);
            case 17: return x.shortest(a[0], a[1]);
            case 18: return x.two(a[0], a[1], a[2]);
            case 19: return x.reading(a[0], a[1], a[2]);
            case 20: return x.back(a[0]);
            case 21: return x.rules(a[0], a[1]);
            case 22: return x.night(a[0], a[1], a[2], a[3]);
            case 23: return x.sheet(a[0], a[1], a[2]);
            case 24: return x.lose(a[0]);
            case 25: return x.put(a[0], a[1], a[2]);
            case 26: return x.cell(a[0], a[1], a[2]);
            case 27: return x.copy(a[0], a[1], a[2], a[3], a[4]);
            case 28: return x.tell(a[0]);
            case 29: return x.fear(a[0]);
            case 30: return x.as(a[0], a[1]);
            case 31: return x.trace();
            case 32: return x.fault();
            default: return x.many(a[0]);
        }
    }
}
