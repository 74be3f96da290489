import java.util.ArrayList;
import java.util.Arrays;
import java.util.HashSet;
import java.util.List;
import java.util.Set;
import java.util.regex.Matcher;
import java.util.regex.Pattern;

/**
 * A second reading of the document, as plain as it goes: no tables, texts by patterns, rows as the machine has them,
 * whose own exceptions tell the FAULTS. It serves as a measure in OracleTest.
 */
final class Oracle {
    private static final long LOST = Long.MIN_VALUE;
    private static final int NONE = -9;
    private static final int REFUSED = Integer.MIN_VALUE;

    /** The kinds, as the document tells them; a body leaves its number in TRACE. */
    private interface Feared {
        Oracle teller();

        int number();

        default int fear() {
            teller().leave(4);
            return number();
        }
    }

    private static class Thing implements Feared {
        final Oracle teller;
        final int number;
        final int digit;

        Thing(Oracle teller, int number, int digit) {
            this.teller = teller;
            this.number = number;
            this.digit = digit;
        }

        public Oracle teller() {
            return teller;
        }

        public int number() {
            return number;
        }

        int words() {
            return 1;
        }

        int tell() {
            return thingTell();
        }

        final int thingTell() {
            teller.leave(1);
            return digit;
        }
    }

    private static class LongThing extends Thing {
        LongThing(Oracle teller, int number, int digit) {
            super(teller, number, digit);
        }

        @Override
        int words() {
            return 2;
        }

        @Override
        int tell() {
            teller.leave(2);
            return super.tell() + 100;
        }
    }

    private static final class Dreaded extends LongThing {
        Dreaded(Oracle teller, int number, int digit) {
            super(teller, number, digit);
        }

        @Override
        int words() {
            return 3;
        }

        @Override
        int tell() {
            teller.leave(3);
            return super.tell() + thingTell();
        }

        @Override
        public int fear() {
            teller.leave(5);
            return 30;
        }
    }

    private static final Class<?>[] KINDS = {Thing.class, LongThing.class, Dreaded.class};
    private static final Class<?>[] LANES = {byte[].class, short[].class, int[].class};

    private final Object[] sheets = new Object[4];
    private final List<Thing> things = new ArrayList<>();
    private final List<int[]> follows = new ArrayList<>();
    private final int[] lists = new int[6];
    private final int[] breaths = new int[6];
    private final Integer[] heard = new Integer[6];
    private final List<int[]> readings = new ArrayList<>();
    private int trace;
    private int fault;

    void leave(int body) {
        trace = trace * 31 + body;
    }

    // what calls ask for

    private boolean town() {
        return !things.isEmpty();
    }

    private boolean isThing(int t) {
        return t >= 0 && t < things.size();
    }

    private static boolean isHour(int h) {
        return h >= 0 && h < 6;
    }

    private static boolean isSheet(int k) {
        return k >= 0 && k < 4;
    }

    private boolean isSet(int set) {
        for (int t = 0; t < 32; t++) {
            if ((set >>> t) % 2 != 0 && !isThing(t)) {
                return false;
            }
        }
        return true;
    }

    private static boolean in(int set, int t) {
        return (set & 1 << t) != 0;
    }

    private boolean isCase(int x) {
        if (!town() || x < 0 || x >= 1 << things.size()) {
            return false;
        }
        for (int[] f : follows) {
            if (in(x, f[0]) && !in(x, f[1])) {
                return false;
            }
        }
        return true;
    }

    private List<Integer> caseList() {
        List<Integer> all = new ArrayList<>();
        for (int x = 0; x < 64; x++) {
            if (isCase(x)) {
                all.add(x);
            }
        }
        return all;
    }

    private static long bits(List<Integer> numbers) {
        long set = 0;
        for (int x : numbers) {
            set |= 1L << x;
        }
        return set;
    }

    private int callOf(int x, int list, int breath) {
        int left = breath;
        int named = 0;
        for (int pass = 0; pass < 2; pass++) {
            for (Thing thing : things) {
                if (thing instanceof Dreaded == (pass == 0) && in(list, thing.number) && !in(x, thing.number)) {
                    left -= thing.words();
                    if (left < 0) {
                        return named;
                    }
                    named += 1 << thing.number;
                }
            }
        }
        return named;
    }

    private List<Integer> thoughtList() {
        List<Integer> all = new ArrayList<>();
        for (int x : caseList()) {
            boolean thought = true;
            for (int h = 0; h < 6; h++) {
                thought &= heard[h] == null || heard[h] == callOf(x, lists[h], breaths[h]);
            }
            if (thought) {
                all.add(x);
            }
        }
        return all;
    }

    private int partsBy(int[][] listsAndBreaths, int n) {
        Set<String> parts = new HashSet<>();
        for (int x : caseList()) {
            StringBuilder calls = new StringBuilder();
            for (int k = 0; k < n; k++) {
                calls.append(callOf(x, listsAndBreaths[k][0], listsAndBreaths[k][1])).append(' ');
            }
            parts.add(calls.toString());
        }
        return parts.size();
    }

    private int[][] hoursAsTheyAre() {
        int[][] hours = new int[6][];
        for (int h = 0; h < 6; h++) {
            hours[h] = new int[] {lists[h], breaths[h]};
        }
        return hours;
    }

    private static long share(long upper, long lower, int which) {
        for (long d = lower; d > 1; d--) {
            if (upper % d == 0 && lower % d == 0) {
                return (which == 0 ? upper : lower) / d;
            }
        }
        return which == 0 ? upper : lower;
    }

    /** One knows a THING, if it is alike in all CASES that one can think. */
    private static boolean knows(List<Integer> cases, int t) {
        Set<Boolean> ways = new HashSet<>();
        for (int x : cases) {
            ways.add(in(x, t));
        }
        return ways.size() == 1;
    }

    private List<Integer> whoHear(int call, int list, int breath, List<Integer> among) {
        List<Integer> all = new ArrayList<>();
        for (int x : among) {
            if (callOf(x, list, breath) == call) {
                all.add(x);
            }
        }
        return all;
    }

    // rows as the machine has them

    private static Object cast(Object row, int lane) {
        return LANES[lane].cast(row);
    }

    private static int read(Object row, int i) {
        if (row instanceof byte[] bytes) {
            return bytes[i];
        }
        if (row instanceof short[] shorts) {
            return shorts[i];
        }
        return ((int[]) row)[i];
    }

    private static int length(Object row) {
        return java.lang.reflect.Array.getLength(row);
    }

    private static int[] cells(Object row, int i, int n) {
        length(row);
        int[] taken = new int[Math.min(n, 1000)];
        int[] ints = new int[length(row)];
        for (int p = 0; p < ints.length; p++) {
            ints[p] = read(row, p);
        }
        System.arraycopy(ints, i, new int[60], 0, Math.max(0, Math.min(n, 61)));
        System.arraycopy(ints, i, taken, 0, taken.length);
        return taken;
    }

    private int faultOf(RuntimeException e) {
        if (e instanceof NullPointerException) {
            fault = 1;
        } else if (e instanceof ClassCastException || e instanceof ArrayStoreException) {
            fault = 2;
        } else if (e instanceof IndexOutOfBoundsException) {
            fault = 3;
        } else if (e instanceof NegativeArraySizeException) {
            fault = 4;
        } else {
            throw e;
        }
        return -10 - fault;
    }

    // texts by patterns

    private static boolean goesOn(String text, boolean whole) {
        for (int n = 2; n <= 6; n++) {
            StringBuilder pairs = new StringBuilder();
            for (int a = 0; a < n; a++) {
                for (int b = 0; b < n; b++) {
                    pairs.append(a == b ? "" : (pairs.length() == 0 ? "" : "|") + a + b);
                }
            }
            Matcher m = Pattern.compile("w(?:[tld][1-9]){" + n + "}(?:;(?:" + pairs + ")){0,4}").matcher(text);
            if (m.matches() || !whole && m.hitEnd()) {
                return true;
            }
        }
        return false;
    }

    private static int firstFault(String text) {
        for (int p = 0; p < text.length(); p++) {
            if (!goesOn(text.substring(0, p + 1), false)) {
                return p;
            }
        }
        return goesOn(text, true) ? -1 : text.length();
    }

    private void take(String text) {
        things.clear();
        follows.clear();
        readings.clear();
        String[] pieces = text.split(";");
        for (int p = 1; p < pieces[0].length(); p += 2) {
            int number = things.size();
            int digit = pieces[0].charAt(p + 1) - '0';
            char kind = pieces[0].charAt(p);
            things.add(kind == 't' ? new Thing(this, number, digit)
                : kind == 'l' ? new LongThing(this, number, digit) : new Dreaded(this, number, digit));
        }
        for (int p = 1; p < pieces.length; p++) {
            follows.add(new int[] {pieces[p].charAt(0) - '0', pieces[p].charAt(1) - '0'});
        }
        Arrays.fill(lists, 0);
        Arrays.fill(breaths, 9);
        Arrays.fill(heard, null);
    }

    // the calls, by their numbers in the document

    long call(int promise, int a, int b, int c, int d, int e) {
        switch (promise) {
            case 2:
                return town(a, b, c, d);
            case 3:
                return !isThing(a) ? -1 : b < 0 || b > 2 ? -2
                    : b == 0 ? Arrays.asList(KINDS).indexOf(things.get(a).getClass())
                    : b == 1 ? things.get(a).digit : things.get(a).words();
            case 4:
                return bits(caseList());
            case 5:
                return isCase(a) ? weight(a) : -1;
            case 6:
                return list(a, b);
            case 7:
                return breath(a, b);
            case 8:
                return !isCase(a) || !isHour(b) ? -1 : callOf(a, lists[b], breaths[b]);
            case 9:
                return hear(a, b);
            case 10:
                return bits(thoughtList());
            case 11:
                return sure(a);
            case 12:
                return chance(a, b);
            case 13:
                return a < 0 || a > 6 ? -2 : !town() ? -3 : partsBy(hoursAsTheyAre(), a);
            case 14:
                return best(a, b);
            case 15:
                return words(a, b);
            case 16:
                return secret(a, b, c, d);
            case 17:
                return shortest(a, b);
            default:
                return laterCall(promise, new int[] {a, b, c, d, e});
        }
    }

    private long laterCall(int promise, int[] a) {
        switch (promise) {
            case 18:
                return !isHour(a[2]) ? -1 : !isSet(a[0]) || !isSet(a[1]) ? -2 : !town() ? -3
                    : partsBy(new int[][] {{a[0], breaths[a[2]]}, {a[1], breaths[a[2]]}}, 2);
            case 19:
                return reading(a[0], a[1], a[2]);
            case 20:
                return back(a[0]);
            case 21:
                return rules(a[0], a[1]);
            case 22:
                return night(a[0], a[1], a[2], a[3]);
            case 23:
                return sheet(a[0], a[1], a[2]);
            case 24:
                return lose(a[0]);
            case 25:
                return put(a[0], a[1], a[2]);
            case 26:
                return cell(a[0], a[1], a[2]);
            case 27:
                return copy(a[0], a[1], a[2], a[3], a[4]);
            case 28:
                return isThing(a[0]) ? things.get(a[0]).tell() : -1;
            case 29:
                return isThing(a[0]) ? things.get(a[0]).fear() : -1;
            case 30:
                return as(a[0], a[1]);
            case 31:
                return trace;
            case 32:
                return fault;
            default:
                return many(a[0]);
        }
    }

    private long town(int k, int lane, int i, int n) {
        int refusal = refusalOfCells(k, lane, i, n);
        if (refusal != REFUSED) {
            return refusal;
        }
        StringBuilder text = new StringBuilder();
        for (int code : cells(sheets[k], i, n)) {
            text.append(code > 0 && code < 128 ? (char) code : '?');
        }
        int first = firstFault(text.toString());
        if (first >= 0) {
            return -100 - first;
        }
        take(text.toString());
        return things.size();
    }

    /** REFUSED stands for cells that can be taken. */
    private int refusalOfCells(int k, int lane, int i, int n) {
        fault = 0;
        if (!isSheet(k)) {
            return -1;
        }
        if (lane < 0 || lane > 2) {
            return -2;
        }
        try {
            cells(cast(sheets[k], lane), i, n);
        } catch (NullPointerException | ClassCastException | IndexOutOfBoundsException | NegativeArraySizeException ex) {
            return faultOf(ex);
        }
        return REFUSED;
    }

    private long weight(int x) {
        long product = 1;
        for (Thing thing : things) {
            product *= in(x, thing.number) ? thing.digit : 10 - thing.digit;
        }
        return product;
    }

    private long list(int hour, int set) {
        if (!isHour(hour) || !isSet(set) || !town()) {
            return !isHour(hour) ? -1 : !isSet(set) ? -2 : -3;
        }
        int was = lists[hour];
        lists[hour] = set;
        return was;
    }

    private long breath(int hour, int b) {
        if (!isHour(hour) || b < 0 || b > 18 || !town()) {
            return !isHour(hour) ? -1 : b < 0 || b > 18 ? -2 : -3;
        }
        int was = breaths[hour];
        breaths[hour] = b;
        return was;
    }

    private long hear(int hour, int set) {
        boolean fits = set == NONE || isSet(set);
        if (!isHour(hour) || !fits || !town()) {
            return !isHour(hour) ? -1 : !fits ? -2 : -3;
        }
        Integer was = heard[hour];
        heard[hour] = set == NONE ? null : Integer.valueOf(set);
        return was == null ? NONE : was;
    }

    private long sure(int what) {
        if (what < 0 || what > 1 || !town()) {
            return what < 0 || what > 1 ? -2 : -3;
        }
        int set = 0;
        for (Thing thing : things) {
            boolean all = true;
            for (int x : thoughtList()) {
                all &= in(x, thing.number) == (what == 0);
            }
            set += all ? 1 << thing.number : 0;
        }
        return set;
    }

    private long chance(int t, int which) {
        if (!isThing(t) || which < 0 || which > 1) {
            return LOST;
        }
        long upper = 0;
        long lower = 0;
        for (int x : thoughtList()) {
            upper += in(x, t) ? weight(x) : 0;
            lower += weight(x);
        }
        return lower == 0 ? which : share(upper, lower, which);
    }

    private long best(int hour, int what) {
        if (!isHour(hour) || what < 0 || what > 1 || !town()) {
            return !isHour(hour) ? -1 : what < 0 || what > 1 ? -2 : -3;
        }
        int most = -1;
        int found = -1;
        int[][] hours = hoursAsTheyAre();
        for (int set = (1 << things.size()) - 1; set >= 0; set--) {
            hours[hour][0] = set;
            int parts = partsBy(hours, hour + 1);
            if (parts >= most) {
                most = parts;
                found = set;
            }
        }
        return what == 0 ? found : most;
    }

    private long words(int hour, int which) {
        if (!isHour(hour) || which < 0 || which > 1 || !town()) {
            return LOST;
        }
        long upper = 0;
        long lower = 0;
        for (int x : caseList()) {
            int call = callOf(x, lists[hour], breaths[hour]);
            for (Thing thing : things) {
                upper += in(call, thing.number) ? thing.words() * weight(x) : 0;
            }
            lower += weight(x);
        }
        return share(upper, lower, which);
    }

    private long secret(int x, int friends, int t, int hour) {
        if (!isCase(x) || !isThing(t) || !isHour(hour) || !isSet(friends)) {
            return !isCase(x) || !isThing(t) || !isHour(hour) ? -1 : -2;
        }
        List<Integer> seen = new ArrayList<>();
        for (int y : caseList()) {
            if ((y & friends) == (x & friends)) {
                seen.add(y);
            }
        }
        for (int set = 0; set < 1 << things.size(); set++) {
            int call = callOf(x, set, breaths[hour]);
            if (knows(whoHear(call, set, breaths[hour], seen), t)
                && !knows(whoHear(call, set, breaths[hour], caseList()), t)) {
                return set;
            }
        }
        return NONE;
    }

    private long shortest(int t, int hour) {
        if (!isThing(t) || !isHour(hour)) {
            return -1;
        }
        for (int size = 0; size <= 6; size++) {
            for (int set = 0; set < 1 << things.size(); set++) {
                if (Integer.bitCount(set) == size && tellsInEachCase(t, set, breaths[hour])) {
                    return set;
                }
            }
        }
        return NONE;
    }

    private boolean tellsInEachCase(int t, int set, int breath) {
        List<Integer> all = caseList();
        for (int x : all) {
            if (!knows(whoHear(callOf(x, set, breath), set, breath, all), t)) {
                return false;
            }
        }
        return true;
    }

    private long reading(int x, int hour, int set) {
        if (!isCase(x) || !isHour(hour) || !isSet(set) || readings.size() == 8) {
            return !isCase(x) || !isHour(hour) ? -1 : !isSet(set) ? -2 : -4;
        }
        readings.add(new int[] {x, hour, set});
        return readings.size() - 1;
    }

    private long back(int k) {
        if (k < 0 || k > readings.size()) {
            return -2;
        }
        readings.subList(readings.size() - k, readings.size()).clear();
        return readings.size();
    }

    private long rules(int hour, int k) {
        if (!isHour(hour) || k < -1 || !town()) {
            return !isHour(hour) || k < -1 ? -1 : -3;
        }
        List<Integer> all = new ArrayList<>();
        for (int set = 0; set < 1 << things.size(); set++) {
            boolean so = true;
            for (int[] r : readings) {
                so &= r[1] != hour || callOf(r[0], set, breaths[hour]) == r[2];
            }
            if (so) {
                all.add(set);
            }
        }
        return k == -1 ? all.size() : k < all.size() ? all.get(k) : NONE;
    }

    private long night(int k, int lane, int i, int n) {
        int refusal = refusalOfCells(k, lane, i, n);
        if (refusal != REFUSED) {
            return refusal;
        }
        if (!town() || n > 6) {
            return town() ? -2 : -3;
        }
        int[][] hours = hoursAsTheyAre();
        int[] cells = cells(sheets[k], i, n);
        for (int h = 0; h < n; h++) {
            if (cells[h] < 0 || cells[h] > 18) {
                return -2;
            }
            hours[h][1] = cells[h];
        }
        return partsBy(hours, n);
    }

    private long sheet(int k, int lane, int n) {
        fault = 0;
        if (!isSheet(k) || lane < 0 || lane > 2 || n > 60) {
            return isSheet(k) ? -2 : -1;
        }
        try {
            sheets[k] = lane == 0 ? new byte[n] : lane == 1 ? new short[n] : new int[n];
        } catch (NegativeArraySizeException ex) {
            return faultOf(ex);
        }
        return 1;
    }

    private long lose(int k) {
        if (!isSheet(k)) {
            return -1;
        }
        Object was = sheets[k];
        sheets[k] = null;
        return was == null ? 0 : 1;
    }

    private long put(int k, int i, int v) {
        fault = 0;
        if (!isSheet(k)) {
            return -1;
        }
        try {
            if (sheets[k] instanceof byte[] bytes) {
                bytes[i] = (byte) v;
            } else if (sheets[k] instanceof short[] shorts) {
                shorts[i] = (short) v;
            } else {
                ((int[]) sheets[k])[i] = v;
            }
        } catch (NullPointerException | IndexOutOfBoundsException ex) {
            return faultOf(ex);
        }
        return 1;
    }

    private long cell(int k, int i, int lane) {
        fault = 0;
        if (!isSheet(k) || lane < 0 || lane > 2) {
            return LOST;
        }
        try {
            return read(cast(sheets[k], lane), i);
        } catch (NullPointerException | ClassCastException | IndexOutOfBoundsException ex) {
            faultOf(ex);
            return LOST;
        }
    }

    private long copy(int k, int i, int other, int j, int n) {
        fault = 0;
        if (!isSheet(k) || !isSheet(other)) {
            return -1;
        }
        try {
            System.arraycopy(sheets[k], i, sheets[other], j, n);
        } catch (NullPointerException | ArrayStoreException | IndexOutOfBoundsException ex) {
            return faultOf(ex);
        }
        return n;
    }

    private long as(int t, int kind) {
        fault = 0;
        if (!isThing(t) || kind < 0 || kind > 2) {
            return isThing(t) ? -2 : -1;
        }
        try {
            KINDS[kind].cast(things.get(t));
        } catch (ClassCastException ex) {
            return faultOf(ex);
        }
        return 1;
    }

    private long many(int what) {
        int hours = 0;
        for (Integer set : heard) {
            hours += set == null ? 0 : 1;
        }
        return what == 0 ? things.size() : what == 1 ? caseList().size() : what == 2 ? hours
            : what == 3 ? readings.size() : -2;
    }
}
