/**
 * A watchman calls by hours those of a list that are not so; who knows his rule thinks by what was called.
 * The words in capitals are those of DOC.md; README.md tells how to use the class.
 */
public final class UnsaidCalls {
    public static final int UNKNOWN = -1, OUTSIDE = -2, STATE = -3, FULL = -4, NONE = -9;
    public static final long LOST = Long.MIN_VALUE;

    private static final int HOURS = 6, FIRST_BREATH = 9, MOST_BREATH = 18;
    private static final int LEAST_THINGS = 2, MOST_THINGS = 6, MOST_FOLLOWS = 4, NIGHTS = 10;
    private static final int THING = 0, LONG = 1, DREADED = 2, KINDS = 3;
    /** How many sets of 6 THINGS there are: CASES, LISTS and CALLS are such sets. */
    private static final int SETS = 64;
    private static final int MOST_READINGS = 8;
    private static final int SHEETS = 4, MOST_CELLS = 60, NO_ROW = -1;
    private static final int BYTES = 0, SHORTS = 1, LANES = 3;
    private static final int NO_FAULT = 0, NULL_FAULT = 1, CAST_FAULT = 2, INDEX_FAULT = 3, SIZE_FAULT = 4;
    private static final int FAULTED = -10, TEXT_FAULTED = -100, TAKEN = -1;
    private static final int OF_LONG = 100, OF_DREADED = 30;

    private final Sheets sheets;
    private final Text text;
    private final Town place;
    private final Parting parting;
    private final Readings readings;
    private final int[] lists;
    private final int[] breaths;
    private final int[] heard;
    private int traced;
    private int lastFault;

    public UnsaidCalls() {
        sheets = new Sheets();
        text = new Text();
        place = new Town();
        parting = new Parting();
        readings = new Readings();
        lists = new int[HOURS];
        breaths = new int[HOURS];
        heard = new int[HOURS];
        traced = 0;
        lastFault = NO_FAULT;
        makeHoursAnew();
    }

    // ---- 1 the town

    public int town(int sheet, int lane, int i, int n) {
        int refusal = refusalOfCells(sheet, lane, i, n);
        if (refusal != 0) {
            return refusal;
        }
        int first = text.firstFault(sheets, sheet, i, n);
        if (first != TAKEN) {
            return TEXT_FAULTED - first;
        }
        place.build(text);
        makeHoursAnew();
        readings.count = 0;
        return place.things;
    }

    public int ofThing(int t, int what) {
        if (!place.isThing(t)) {
            return UNKNOWN;
        }
        if (what == 0) {
            return place.kinds[t];
        }
        if (what == 1) {
            return place.digits[t];
        }
        return what == 2 ? wordsOfKind(place.kinds[t]) : OUTSIDE;
    }

    public long cases() {
        return place.caseSet;
    }

    public int weight(int x) {
        return place.isCase(x) ? place.weights[x] : UNKNOWN;
    }

    public int list(int hour, int things) {
        int refusal = refusalOfSet(hour, things);
        if (refusal != 0) {
            return refusal;
        }
        int before = lists[hour];
        lists[hour] = things;
        return before;
    }

    public int breath(int hour, int b) {
        if (!isHour(hour)) {
            return UNKNOWN;
        }
        if (!isBreath(b)) {
            return OUTSIDE;
        }
        if (!hasTown()) {
            return STATE;
        }
        int before = breaths[hour];
        breaths[hour] = b;
        return before;
    }

    // ---- 2 calls

    public int called(int x, int hour) {
        if (!place.isCase(x) || !isHour(hour)) {
            return UNKNOWN;
        }
        return callOfHour(x, hour);
    }

    public int hear(int hour, int things) {
        // NONE has bits of no THING, but it tells that nothing was HEARD.
        int refusal = refusalOfSet(hour, things == NONE ? 0 : things);
        if (refusal != 0) {
            return refusal;
        }
        int before = heard[hour];
        heard[hour] = things;
        return before;
    }

    public long thought() {
        long set = 0L;
        for (int c = 0; c < place.caseCount; c++) {
            int x = place.caseRow[c];
            if (isThought(x)) {
                set |= 1L << x;
            }
        }
        return set;
    }

    public int sure(int what) {
        if (what != 0 && what != 1) {
            return OUTSIDE;
        }
        if (!hasTown()) {
            return STATE;
        }
        int alike = place.allThings();
        for (int c = 0; c < place.caseCount; c++) {
            int x = place.caseRow[c];
            if (isThought(x)) {
                alike &= what == 0 ? x : ~x;
            }
        }
        return alike;
    }

    public long chance(int t, int which) {
        if (!place.isThing(t) || !isHalfOfShare(which)) {
            return LOST;
        }
        long upper = 0L;
        long lower = 0L;
        for (int c = 0; c < place.caseCount; c++) {
            int x = place.caseRow[c];
            if (isThought(x)) {
                lower += place.weights[x];
                upper += has(x, t) ? place.weights[x] : 0;
            }
        }
        return halfOfShare(upper, lower, which);
    }

    // ---- 3 parts

    public int parts(int n) {
        if (n < 0 || n > HOURS) {
            return OUTSIDE;
        }
        if (!hasTown()) {
            return STATE;
        }
        splitByHours(n);
        return parting.number();
    }

    public int best(int hour, int what) {
        if (!isHour(hour)) {
            return UNKNOWN;
        }
        if (what != 0 && what != 1) {
            return OUTSIDE;
        }
        if (!hasTown()) {
            return STATE;
        }
        splitByHours(hour);
        parting.number();
        int bestList = 0;
        int most = 0;
        for (int things = 0; things < place.sets(); things++) {
            int parts = parting.countWith(place, things, breaths[hour]);
            if (parts > most) {
                most = parts;
                bestList = things;
            }
        }
        return what == 0 ? bestList : most;
    }

    public long words(int hour, int which) {
        if (!isHour(hour) || !isHalfOfShare(which) || !hasTown()) {
            return LOST;
        }
        long upper = 0L;
        long lower = 0L;
        for (int c = 0; c < place.caseCount; c++) {
            int x = place.caseRow[c];
            lower += place.weights[x];
            upper += (long) place.weights[x] * place.wordsIn(callOfHour(x, hour));
        }
        return halfOfShare(upper, lower, which);
    }

    // ---- 4 secrets

    public int secret(int x, int friends, int t, int hour) {
        if (!place.isCase(x) || !place.isThing(t) || !isHour(hour)) {
            return UNKNOWN;
        }
        if (!place.isSet(friends)) {
            return OUTSIDE;
        }
        for (int things = 0; things < place.sets(); things++) {
            if (isSecret(x, friends, t, things, breaths[hour])) {
                return things;
            }
        }
        return NONE;
    }

    public int shortest(int t, int hour) {
        if (!place.isThing(t) || !isHour(hour)) {
            return UNKNOWN;
        }
        int found = NONE;
        int fewest = MOST_THINGS + 1;
        for (int things = 0; things < place.sets(); things++) {
            int size = Integer.bitCount(things);
            if (size < fewest && tells(t, things, breaths[hour])) {
                found = things;
                fewest = size;
            }
        }
        return found;
    }

    public int two(int one, int other, int hour) {
        if (!isHour(hour)) {
            return UNKNOWN;
        }
        if (!place.isSet(one) || !place.isSet(other)) {
            return OUTSIDE;
        }
        if (!hasTown()) {
            return STATE;
        }
        parting.begin(place);
        parting.splitBy(place, one, breaths[hour]);
        parting.splitBy(place, other, breaths[hour]);
        return parting.number();
    }

    // ---- 5 which rule

    public int reading(int x, int hour, int things) {
        if (!place.isCase(x) || !isHour(hour)) {
            return UNKNOWN;
        }
        if (!place.isSet(things)) {
            return OUTSIDE;
        }
        if (readings.count >= MOST_READINGS) {
            return FULL;
        }
        return readings.take(x, hour, things);
    }

    public int back(int k) {
        if (k < 0 || k > readings.count) {
            return OUTSIDE;
        }
        readings.count -= k;
        return readings.count;
    }

    public int rules(int hour, int k) {
        if (!isHour(hour) || k < -1) {
            return UNKNOWN;
        }
        if (!hasTown()) {
            return STATE;
        }
        int count = 0;
        for (int things = 0; things < place.sets(); things++) {
            if (readings.allow(place, things, hour, breaths[hour])) {
                if (count == k) {
                    return things;
                }
                count++;
            }
        }
        return k == -1 ? count : NONE;
    }

    public int night(int sheet, int lane, int i, int n) {
        int refusal = refusalOfCells(sheet, lane, i, n);
        if (refusal != 0) {
            return refusal;
        }
        if (!hasTown()) {
            return STATE;
        }
        if (n > HOURS || !areBreaths(sheet, i, n)) {
            return OUTSIDE;
        }
        parting.begin(place);
        for (int hour = 0; hour < n && hour < HOURS; hour++) {
            parting.splitBy(place, lists[hour], sheets.at(sheet, i + hour));
        }
        return parting.number();
    }

    // ---- 6 sheets, parts

    public int sheet(int k, int lane, int n) {
        lastFault = NO_FAULT;
        if (!sheets.isSheet(k)) {
            return UNKNOWN;
        }
        if (!isLane(lane) || n > MOST_CELLS) {
            return OUTSIDE;
        }
        if (n < 0) {
            return faulted(SIZE_FAULT);
        }
        sheets.renew(k, lane, n);
        return 1;
    }

    public int lose(int k) {
        if (!sheets.isSheet(k)) {
            return UNKNOWN;
        }
        int had = sheets.hasRow(k) ? 1 : 0;
        sheets.drop(k);
        return had;
    }

    public int put(int k, int i, int v) {
        lastFault = NO_FAULT;
        if (!sheets.isSheet(k)) {
            return UNKNOWN;
        }
        if (!sheets.hasRow(k)) {
            return faulted(NULL_FAULT);
        }
        if (!sheets.isCell(k, i)) {
            return faulted(INDEX_FAULT);
        }
        sheets.write(k, i, v);
        return 1;
    }

    public long cell(int k, int i, int lane) {
        lastFault = NO_FAULT;
        if (!sheets.isSheet(k) || !isLane(lane)) {
            return LOST;
        }
        if (!sheets.mayBeOfLane(k, lane)) {
            faulted(CAST_FAULT);
            return LOST;
        }
        if (!sheets.hasRow(k)) {
            faulted(NULL_FAULT);
            return LOST;
        }
        if (!sheets.isCell(k, i)) {
            faulted(INDEX_FAULT);
            return LOST;
        }
        return sheets.at(k, i);
    }

    public int copy(int k, int i, int other, int j, int n) {
        lastFault = NO_FAULT;
        if (!sheets.isSheet(k) || !sheets.isSheet(other)) {
            return UNKNOWN;
        }
        if (!sheets.hasRow(k) || !sheets.hasRow(other)) {
            return faulted(NULL_FAULT);
        }
        if (sheets.lanes[k] != sheets.lanes[other]) {
            return faulted(CAST_FAULT);
        }
        if (!sheets.hasCells(k, i, n) || !sheets.hasCells(other, j, n)) {
            return faulted(INDEX_FAULT);
        }
        sheets.move(k, i, other, j, n);
        return n;
    }

    public int tell(int t) {
        if (!place.isThing(t)) {
            return UNKNOWN;
        }
        int kind = place.kinds[t];
        if (kind == DREADED) {
            return tellDreaded(place.digits[t]);
        }
        return kind == LONG ? tellLong(place.digits[t]) : tellThing(place.digits[t]);
    }

    public int fear(int t) {
        if (!place.isThing(t)) {
            return UNKNOWN;
        }
        return place.kinds[t] == DREADED ? fearDreaded() : fearLent(t);
    }

    public int as(int t, int kind) {
        lastFault = NO_FAULT;
        if (!place.isThing(t)) {
            return UNKNOWN;
        }
        if (kind < THING || kind >= KINDS) {
            return OUTSIDE;
        }
        // The kinds are numbered so that each is one of all kinds below it, too.
        return place.kinds[t] >= kind ? 1 : faulted(CAST_FAULT);
    }

    public int trace() {
        return traced;
    }

    public int fault() {
        return lastFault;
    }

    public int many(int what) {
        if (what == 0) {
            return place.things;
        }
        if (what == 1) {
            return place.caseCount;
        }
        if (what == 2) {
            return countHeard();
        }
        return what == 3 ? readings.count : OUTSIDE;
    }

    // ---- what the calls share

    private static boolean isHour(int hour) {
        return hour >= 0 && hour < HOURS;
    }

    private static boolean isBreath(int b) {
        return b >= 0 && b <= MOST_BREATH;
    }

    private static boolean isLane(int lane) {
        return lane >= BYTES && lane < LANES;
    }

    private static boolean isHalfOfShare(int which) {
        return which == 0 || which == 1;
    }

    private static boolean has(int set, int t) {
        return ((set >> t) & 1) == 1;
    }

    private static int wordsOfKind(int kind) {
        return kind + 1;
    }

    private boolean hasTown() {
        return place.things > 0;
    }

    private void makeHoursAnew() {
        for (int hour = 0; hour < HOURS; hour++) {
            lists[hour] = 0;
            breaths[hour] = FIRST_BREATH;
            heard[hour] = NONE;
        }
    }

    private int faulted(int which) {
        lastFault = which;
        return FAULTED - which;
    }

    /** What an HOUR and a set of THINGS are refused with; 0, if they are not. */
    private int refusalOfSet(int hour, int things) {
        if (!isHour(hour)) {
            return UNKNOWN;
        }
        if (!place.isSet(things)) {
            return OUTSIDE;
        }
        return hasTown() ? 0 : STATE;
    }

    /** What n cells of a SHEET, taken as a row of a LANE, are refused with (FAULTS, too); 0, if they are not. */
    private int refusalOfCells(int k, int lane, int i, int n) {
        lastFault = NO_FAULT;
        if (!sheets.isSheet(k)) {
            return UNKNOWN;
        }
        if (!isLane(lane)) {
            return OUTSIDE;
        }
        if (!sheets.mayBeOfLane(k, lane)) {
            return faulted(CAST_FAULT);
        }
        if (!sheets.hasRow(k)) {
            return faulted(NULL_FAULT);
        }
        if (n < 0) {
            return faulted(SIZE_FAULT);
        }
        return sheets.hasCells(k, i, n) ? 0 : faulted(INDEX_FAULT);
    }

    private int callOfHour(int x, int hour) {
        return place.callIn(x, lists[hour], breaths[hour]);
    }

    private boolean isThought(int x) {
        for (int hour = 0; hour < HOURS; hour++) {
            if (heard[hour] != NONE && heard[hour] != callOfHour(x, hour)) {
                return false;
            }
        }
        return true;
    }

    private int countHeard() {
        int count = 0;
        for (int hour = 0; hour < HOURS; hour++) {
            if (heard[hour] != NONE) {
                count++;
            }
        }
        return count;
    }

    /** The upper (0) or lower (1) number of a share in least terms; a share of nothing is 0 of 1. */
    private static long halfOfShare(long upper, long lower, int which) {
        long divisor = commonDivisor(upper, lower);
        if (lower <= 0L || divisor <= 0L) {
            return which;
        }
        return (which == 0 ? upper : lower) / divisor;
    }

    private static long commonDivisor(long one, long other) {
        long a = one;
        long b = other;
        // Two steps halve the greater number at least, so that 128 steps do for all longs.
        for (int step = 0; step < 128 && b != 0L; step++) {
            long rest = a % b;
            a = b;
            b = rest;
        }
        return a;
    }

    private void splitByHours(int n) {
        parting.begin(place);
        for (int hour = 0; hour < n && hour < HOURS; hour++) {
            parting.splitBy(place, lists[hour], breaths[hour]);
        }
    }

    private boolean areBreaths(int sheet, int i, int n) {
        for (int hour = 0; hour < n && hour < HOURS; hour++) {
            if (!isBreath(sheets.at(sheet, i + hour))) {
                return false;
            }
        }
        return true;
    }

    /** In CASE x itself all is as it is, so one doubts just by a CASE with the same CALL that is unlike x in t. */
    private boolean isSecret(int x, int friends, int t, int things, int b) {
        int call = place.callIn(x, things, b);
        boolean thiefDoubts = false;
        for (int c = 0; c < place.caseCount; c++) {
            int unlike = place.caseRow[c] ^ x;
            if (has(unlike, t) && place.callIn(place.caseRow[c], things, b) == call) {
                if ((unlike & friends) == 0) {
                    return false;
                }
                thiefDoubts = true;
            }
        }
        return thiefDoubts;
    }

    /** Whether no CALL of this LIST is made both in a CASE with t and in one without it. */
    private boolean tells(int t, int things, int b) {
        long callsWith = 0L;
        long callsWithout = 0L;
        for (int c = 0; c < place.caseCount; c++) {
            int x = place.caseRow[c];
            long call = 1L << place.callIn(x, things, b);
            if (has(x, t)) {
                callsWith |= call;
            } else {
                callsWithout |= call;
            }
        }
        return (callsWith & callsWithout) == 0L;
    }

    private void leaveTrace(int body) {
        traced = 31 * traced + body;
    }

    private int tellThing(int digit) {
        leaveTrace(1);
        return digit;
    }

    private int tellLong(int digit) {
        leaveTrace(2);
        return tellThing(digit) + OF_LONG;
    }

    private int tellDreaded(int digit) {
        leaveTrace(3);
        int asLong = tellLong(digit);
        return asLong + tellThing(digit);
    }

    private int fearLent(int t) {
        leaveTrace(4);
        return t;
    }

    private int fearDreaded() {
        leaveTrace(5);
        return OF_DREADED;
    }

    /** The SHEETS, all in one row of ints: a cell holds what its LANE leaves of a number. */
    private static final class Sheets {
        final int[] lanes;
        final int[] sizes;
        final int[] cells;

        Sheets() {
            lanes = new int[SHEETS];
            sizes = new int[SHEETS];
            cells = new int[SHEETS * MOST_CELLS];
            for (int k = 0; k < SHEETS; k++) {
                lanes[k] = NO_ROW;
            }
        }

        boolean isSheet(int k) {
            return k >= 0 && k < SHEETS;
        }

        boolean hasRow(int k) {
            return lanes[k] != NO_ROW;
        }

        /** Nothing may be taken as a row of every LANE. */
        boolean mayBeOfLane(int k, int lane) {
            return lanes[k] == NO_ROW || lanes[k] == lane;
        }

        boolean isCell(int k, int i) {
            return i >= 0 && i < sizes[k];
        }

        /** Also where n is 0, i is one of the places 0 .. how many cells there are. */
        boolean hasCells(int k, int i, int n) {
            return n >= 0 && i >= 0 && i <= sizes[k] && n <= sizes[k] - i;
        }

        void renew(int k, int lane, int n) {
            lanes[k] = lane;
            sizes[k] = n;
            for (int i = 0; i < MOST_CELLS; i++) {
                cells[k * MOST_CELLS + i] = 0;
            }
        }

        void drop(int k) {
            lanes[k] = NO_ROW;
            sizes[k] = 0;
        }

        int at(int k, int i) {
            return isCell(k, i) ? cells[k * MOST_CELLS + i] : 0;
        }

        void write(int k, int i, int v) {
            int cut = v;
            if (lanes[k] == BYTES) {
                cut = (byte) v;
            } else if (lanes[k] == SHORTS) {
                cut = (short) v;
            }
            cells[k * MOST_CELLS + i] = cut;
        }

        /** The library moves cells of one row as they were, also where the two places lie across each other. */
        void move(int k, int i, int other, int j, int n) {
            System.arraycopy(cells, k * MOST_CELLS + i, cells, other * MOST_CELLS + j, n);
        }
    }

    /** Reads a TEXT code by code and keeps what it told. */
    private static final class Text {
        private static final int W = 119, T = 116, L = 108, D = 100, SEMICOLON = 59, DIGIT = 48;
        private static final int AT_START = 0, AT_LETTER = 1, AT_CHANCE = 2, AT_CAUSE = 3, AT_EFFECT = 4, AT_MORE = 5;

        final int[] kinds;
        final int[] digits;
        final int[] causes;
        final int[] effects;
        int things;
        int follows;
        private int due;

        Text() {
            kinds = new int[MOST_THINGS];
            digits = new int[MOST_THINGS];
            causes = new int[MOST_FOLLOWS];
            effects = new int[MOST_FOLLOWS];
        }

        /** The FIRST FAULT of n cells from i on; TAKEN, if they are a TEXT. */
        int firstFault(Sheets sheets, int k, int i, int n) {
            things = 0;
            follows = 0;
            due = AT_START;
            for (int p = 0; p < n && p < MOST_CELLS; p++) {
                if (!goesOn(sheets.at(k, i + p))) {
                    return p;
                }
            }
            return mayEnd() ? TAKEN : n;
        }

        private boolean mayEnd() {
            return due == AT_MORE || (due == AT_LETTER && things >= LEAST_THINGS);
        }

        private boolean goesOn(int code) {
            switch (due) {
                case AT_START:
                    return startsWith(code);
                case AT_LETTER:
                    return code == SEMICOLON ? beginsFollowing() : namesKind(code);
                case AT_CHANCE:
                    return tellsChance(code - DIGIT);
                case AT_CAUSE:
                    return tellsCause(code - DIGIT);
                case AT_EFFECT:
                    return tellsEffect(code - DIGIT);
                default:
                    return code == SEMICOLON && beginsFollowing();
            }
        }

        private boolean startsWith(int code) {
            due = AT_LETTER;
            return code == W;
        }

        private boolean namesKind(int code) {
            if (things >= MOST_THINGS || (code != T && code != L && code != D)) {
                return false;
            }
            if (code == T) {
                kinds[things] = THING;
            } else {
                kinds[things] = code == L ? LONG : DREADED;
            }
            due = AT_CHANCE;
            return true;
        }

        private boolean tellsChance(int digit) {
            if (things >= MOST_THINGS || digit < 1 || digit >= NIGHTS) {
                return false;
            }
            digits[things] = digit;
            things++;
            due = AT_LETTER;
            return true;
        }

        private boolean beginsFollowing() {
            due = AT_CAUSE;
            return things >= LEAST_THINGS && follows < MOST_FOLLOWS;
        }

        private boolean tellsCause(int digit) {
            if (follows >= MOST_FOLLOWS || digit < 0 || digit >= things) {
                return false;
            }
            causes[follows] = digit;
            due = AT_EFFECT;
            return true;
        }

        private boolean tellsEffect(int digit) {
            if (follows >= MOST_FOLLOWS || digit < 0 || digit >= things || digit == causes[follows]) {
                return false;
            }
            effects[follows] = digit;
            follows++;
            due = AT_MORE;
            return true;
        }
    }

    /** The THINGS of a TOWN, its CASES, and the CALLS of every set of THINGS that are not so by every BREATH. */
    private static final class Town {
        final int[] kinds;
        final int[] digits;
        final int[] caseRow;
        final int[] weights;
        private final int[] order;
        private final int[] calls;
        int things;
        int caseCount;
        long caseSet;

        Town() {
            kinds = new int[MOST_THINGS];
            digits = new int[MOST_THINGS];
            caseRow = new int[SETS];
            weights = new int[SETS];
            order = new int[MOST_THINGS];
            calls = new int[(MOST_BREATH + 1) * SETS];
        }

        boolean isThing(int t) {
            return t >= 0 && t < things && t < MOST_THINGS;
        }

        boolean isSet(int set) {
            return (set & ~allThings()) == 0;
        }

        boolean isCase(int x) {
            return x >= 0 && x < SETS && ((caseSet >> x) & 1L) == 1L;
        }

        int sets() {
            return 1 << things;
        }

        int allThings() {
            return sets() - 1;
        }

        void build(Text text) {
            things = text.things;
            for (int t = 0; t < things && t < MOST_THINGS; t++) {
                kinds[t] = text.kinds[t];
                digits[t] = text.digits[t];
            }
            findCases(text);
            orderThings();
            for (int set = 0; set < sets() && set < SETS; set++) {
                fillCalls(set);
            }
        }

        /** A CALL hangs by nothing but the BREATH and which THINGS of the LIST are not so. */
        int callIn(int x, int list, int b) {
            return isBreath(b) ? calls[b * SETS + (list & ~x & (SETS - 1))] : 0;
        }

        int wordsIn(int set) {
            int words = 0;
            for (int t = 0; t < things && t < MOST_THINGS; t++) {
                if (has(set, t)) {
                    words += wordsOfKind(kinds[t]);
                }
            }
            return words;
        }

        private void findCases(Text text) {
            caseSet = 0L;
            caseCount = 0;
            for (int x = 0; x < sets() && x < SETS; x++) {
                if (allFollows(x, text)) {
                    caseRow[caseCount] = x;
                    weights[x] = weigh(x);
                    caseSet |= 1L << x;
                    caseCount++;
                }
            }
        }

        private boolean allFollows(int x, Text text) {
            for (int f = 0; f < text.follows && f < MOST_FOLLOWS; f++) {
                if (has(x, text.causes[f]) && !has(x, text.effects[f])) {
                    return false;
                }
            }
            return true;
        }

        private int weigh(int x) {
            int product = 1;
            for (int t = 0; t < things && t < MOST_THINGS; t++) {
                product *= has(x, t) ? digits[t] : NIGHTS - digits[t];
            }
            return product;
        }

        /** The DREADED ones are named first. */
        private void orderThings() {
            int next = 0;
            for (int pass = 0; pass < 2; pass++) {
                for (int t = 0; t < things && next < MOST_THINGS; t++) {
                    boolean first = kinds[t] == DREADED;
                    if (first == (pass == 0)) {
                        order[next] = t;
                        next++;
                    }
                }
            }
        }

        /** The longer the BREATH, the more are named; so all BREATHS are filled in one walk through the order. */
        private void fillCalls(int unsaid) {
            int named = 0;
            int words = 0;
            for (int turn = 0; turn < things && turn < MOST_THINGS; turn++) {
                int t = order[turn];
                if (has(unsaid, t)) {
                    int enough = words + wordsOfKind(kinds[t]);
                    fillBreaths(unsaid, named, words, enough);
                    named |= 1 << t;
                    words = enough;
                }
            }
            fillBreaths(unsaid, named, words, MOST_BREATH + 1);
        }

        private void fillBreaths(int unsaid, int named, int from, int end) {
            for (int b = from; b < end && b <= MOST_BREATH; b++) {
                calls[b * SETS + unsaid] = named;
            }
        }
    }

    /** Parts the CASES of a TOWN by CALLS; each CASE goes by its place in the TOWN's row of CASES. */
    private static final class Parting {
        private static final int BITS_OF_CALL = 6;

        private final long[] callsOfCase;
        private final int[] partOfCase;
        private final long[] callsOfPart;
        private int cases;
        private int parts;

        Parting() {
            callsOfCase = new long[SETS];
            partOfCase = new int[SETS];
            callsOfPart = new long[SETS];
        }

        void begin(Town town) {
            cases = Math.min(town.caseCount, SETS);
            for (int c = 0; c < cases; c++) {
                callsOfCase[c] = 0L;
            }
        }

        /** At most 6 HOURS of 6 bits are asked for, so a long has room for all CALLS of a CASE. */
        void splitBy(Town town, int list, int b) {
            for (int c = 0; c < cases; c++) {
                callsOfCase[c] = (callsOfCase[c] << BITS_OF_CALL) | town.callIn(town.caseRow[c], list, b);
            }
        }

        /** Numbers the parts by their first CASES: how many there are. */
        int number() {
            parts = 0;
            for (int c = 0; c < cases; c++) {
                int first = firstLike(c);
                if (first == c) {
                    partOfCase[c] = parts;
                    parts++;
                } else {
                    partOfCase[c] = partOfCase[first];
                }
            }
            return parts;
        }

        private int firstLike(int c) {
            for (int earlier = 0; earlier < c; earlier++) {
                if (callsOfCase[earlier] == callsOfCase[c]) {
                    return earlier;
                }
            }
            return c;
        }

        /** Into how many the numbered parts fall by one more LIST: different CALLS in each, added up. */
        int countWith(Town town, int list, int b) {
            for (int p = 0; p < parts; p++) {
                callsOfPart[p] = 0L;
            }
            int count = 0;
            for (int c = 0; c < cases; c++) {
                long call = 1L << town.callIn(town.caseRow[c], list, b);
                int part = partOfCase[c];
                if ((callsOfPart[part] & call) == 0L) {
                    callsOfPart[part] |= call;
                    count++;
                }
            }
            return count;
        }
    }

    /** The READINGS, in the order in which they came. */
    private static final class Readings {
        private final int[] cases;
        private final int[] hours;
        private final int[] sets;
        int count;

        Readings() {
            cases = new int[MOST_READINGS];
            hours = new int[MOST_READINGS];
            sets = new int[MOST_READINGS];
        }

        int take(int x, int hour, int things) {
            int number = count;
            if (number < MOST_READINGS) {
                cases[number] = x;
                hours[number] = hour;
                sets[number] = things;
                count++;
            }
            return number;
        }

        boolean allow(Town town, int list, int hour, int b) {
            for (int r = 0; r < count && r < MOST_READINGS; r++) {
                if (hours[r] == hour && town.callIn(cases[r], list, b) != sets[r]) {
                    return false;
                }
            }
            return true;
        }
    }
}
