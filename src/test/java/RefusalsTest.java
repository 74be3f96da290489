import java.util.ArrayList;
import java.util.List;
import java.util.function.Supplier;

/**
 * What calls are refused with, which FAULTS they come to, in which order, and that neither changes anything (all
 * promises but 1, 4, 10, 31 and 32, which refuse nothing).
 */
public final class RefusalsTest extends Sentences {
    /** A call that names no FAULTS leaves fault() as it is. */
    private static final int KEPT = -1;

    public static void main(String[] args) {
        new RefusalsTest().run();
    }

    @Override
    void all() {
        town();
        townFaults();
        thingsAndCases();
        listsAndBreaths();
        callsAndHeard();
        thinking();
        parts();
        secrets();
        readings();
        rules();
        night();
        nightFaults();
        sheets();
        cells();
        copy();
        tellings();
        general();
    }

    /** SHEETS 0: bytes, a TEXT; 1: shorts 5, 3, 0, 2, 18, 0, 0, 19, -1; 2: ints 7, -7; 3: nothing. */
    private static UnsaidCalls withoutTown() {
        UnsaidCalls x = new UnsaidCalls();
        Due.write(x, 0, 0, "wt1d2");
        ready(x, "sheet(1, 1, 9)", "sheet(2, 2, 2)", "put(2, 0, 7)", "put(2, 1, -7)");
        int[] cells = {5, 3, 0, 2, 18, 0, 0, 19, -1};
        for (int i = 0; i < cells.length; i++) {
            x.put(1, i, cells[i]);
        }
        return x;
    }

    private static UnsaidCalls withTown() {
        UnsaidCalls x = withoutTown();
        Due.takeText(x, TOWN);
        ready(x, "lose(3)", "list(0, 7)", "list(5, 5)", "breath(0, 3)", "breath(1, 0)", "breath(5, 18)", "hear(0, 2)",
            "hear(2, 0)", "reading(0, 0, 2)", "reading(1, 1, 0)", "reading(1, 5, 4)", "tell(1)");
        return x;
    }

    private static UnsaidCalls full() {
        UnsaidCalls x = withTown();
        ready(x, "reading(0, 0, 2)", "reading(2, 0, 5)", "reading(0, 2, 3)", "reading(7, 3, 0)", "reading(0, 3, 0)");
        return x;
    }

    /** All that calls can tell of an object; what is changed to be told is changed back. */
    private static List<Long> stateOf(UnsaidCalls x) {
        List<Long> all = new ArrayList<>();
        for (String call : new String[] {"trace()", "cases()", "thought()", "many(0)", "many(2)", "many(3)", "parts(6)"}) {
            all.add(Due.ask(x, call));
        }
        for (int hour = 0; hour < 6; hour++) {
            addAndRestore(all, x, "list", hour);
            addAndRestore(all, x, "breath", hour);
            addAndRestore(all, x, "hear", hour);
            all.add((long) x.rules(hour, -1));
            all.add((long) x.rules(hour, 0));
        }
        for (int k = 0; k < 4; k++) {
            for (int lane = 0; lane < 3; lane++) {
                for (int i = 0; i < 9; i++) {
                    all.add(x.cell(k, i, lane));
                }
            }
        }
        return all;
    }

    private static void addAndRestore(List<Long> all, UnsaidCalls x, String name, int hour) {
        long was = Due.ask(x, name + "(" + hour + ", 0)");
        all.add(was);
        if (was != STATE) {
            ready(x, name + "(" + hour + ", " + was + ")");
        }
    }

    /** Each call, on an object of its own, is answered so, changes nothing, and leaves that FAULT. */
    private static void refused(Supplier<UnsaidCalls> made, long answer, int fault, String... calls) {
        for (String call : calls) {
            UnsaidCalls x = made.get();
            List<Long> ahead = stateOf(x);
            int faultAhead = fault == 4 ? 3 : 4;
            ready(x, faultAhead == 4 ? "sheet(0, 0, -1)" : "put(0, 60, 0)");
            due(x, call, answer);
            due("fault() behind " + call, x.fault(), fault == KEPT ? faultAhead : fault);
            due(call + " changed nothing", stateOf(x).equals(ahead) ? 1 : 0, 1);
        }
    }

    private static void refusedWithTown(int promise, String words, long answer, int fault, String... calls) {
        says(promise, words);
        refused(RefusalsTest::withTown, answer, fault, calls);
    }

    private static void refusedWithoutTown(int promise, String words, long answer, int fault, String... calls) {
        says(promise, words);
        refused(RefusalsTest::withoutTown, answer, fault, calls);
    }

    /** Of several the first: the same calls with and without a TOWN. */
    private static void firstOfSeveral(int promise, long answer, int fault, String... calls) {
        says(promise, "of several the first in the order in which a call's line tells them.");
        refused(RefusalsTest::withTown, answer, fault, calls);
        refused(RefusalsTest::withoutTown, answer, fault, calls);
    }

    private static void town() {
        refusedWithTown(2, "UNKNOWN; ", UNKNOWN, 0, "town(-1, 0, 0, 5)", "town(4, 0, 0, 5)", "town(MIN, 0, 0, 5)",
            "town(MAX, 0, 0, 5)");
        refusedWithTown(2, "OUTSIDE: lane; ", OUTSIDE, 0, "town(0, -1, 0, 5)", "town(0, 3, 0, 5)", "town(0, MIN, 0, 5)",
            "town(3, MAX, 0, 5)");
        refusedWithTown(2, "INDEX; -100 less it.", -100, 0, "town(0, 0, 0, 0)", "town(0, 0, 5, 0)", "town(0, 0, 1, 4)",
            "town(1, 1, 0, 9)", "town(2, 2, 0, 2)", "town(2, 2, 2, 0)");
        refusedWithTown(2, "INDEX; -100 less it.", -104, 0, "town(0, 0, 0, 4)");
        firstOfSeveral(2, UNKNOWN, 0, "town(4, 3, -1, -1)", "town(-1, 9, 9, 9)");
        firstOfSeveral(2, OUTSIDE, 0, "town(0, 3, -1, -1)", "town(3, -1, -1, -1)", "town(2, 3, 0, 2)");
        firstOfSeveral(2, CAST, 2, "town(0, 1, -1, -1)", "town(1, 0, 99, 1)", "town(2, 0, 0, 2)");
        firstOfSeveral(2, NULL, 1, "town(3, 0, -1, -1)", "town(3, 1, 0, -1)", "town(3, 2, 99, 1)");
        firstOfSeveral(2, SIZE, 4, "town(0, 0, -1, -1)", "town(1, 1, 99, -1)");
        firstOfSeveral(2, INDEX, 3, "town(1, 1, 0, 10)", "town(2, 2, 2, 1)", "town(0, 0, 6, 0)");
    }

    private static void townFaults() {
        refusedWithTown(2, "CAST (nothing is no CAST); ", CAST, 2, "town(0, 1, 0, 5)", "town(0, 2, 0, 5)", "town(1, 0, 0, 5)",
            "town(1, 2, 0, 5)", "town(2, 0, 0, 2)", "town(2, 1, 0, 2)");
        refusedWithTown(2, "NULL; ", NULL, 1, "town(3, 0, 0, 5)", "town(3, 1, 0, 0)", "town(3, 2, 0, 5)");
        refusedWithTown(2, "SIZE: n below 0; ", SIZE, 4, "town(0, 0, 0, -1)", "town(0, 0, 5, -1)", "town(0, 0, 0, MIN)");
        refusedWithTown(2, "INDEX; ", INDEX, 3, "town(0, 0, -1, 1)", "town(0, 0, -1, 5)", "town(0, 0, 0, 6)", "town(0, 0, 1, 5)",
            "town(0, 0, 5, 1)", "town(0, 0, 4, 2)", "town(0, 0, MAX, 1)", "town(0, 0, MIN, 1)", "town(0, 0, 1, MAX)",
            "town(0, 0, MAX, MAX)", "town(0, 0, MIN, MAX)");
        refusedWithTown(2, "3 INDEX (of cells from i on also where i is not 0 .. how many there are, if none of them is taken, too)",
            INDEX, 3, "town(0, 0, -1, 0)", "town(0, 0, 6, 0)", "town(0, 0, MIN, 0)", "town(0, 0, MAX, 0)");
        UnsaidCalls x = withTown();
        ready(x, "sheet(0, 0, 0)");
        dueWithFault(x, "town(0, 0, 0, 0)", -100, 0);
        dueWithFault(x, "town(0, 0, 1, 0)", INDEX, 3);
        dueWithFault(x, "town(0, 0, 0, 1)", INDEX, 3);
    }

    private static void thingsAndCases() {
        refusedWithTown(3, "UNKNOWN; ", UNKNOWN, KEPT, "ofThing(-1, 0)", "ofThing(3, 0)", "ofThing(6, 0)", "ofThing(MIN, 0)",
            "ofThing(MAX, 0)");
        refusedWithTown(3, "OUTSIDE.", OUTSIDE, KEPT, "ofThing(0, -1)", "ofThing(2, 3)", "ofThing(0, MIN)", "ofThing(0, MAX)");
        firstOfSeveral(3, UNKNOWN, KEPT, "ofThing(3, 3)", "ofThing(-1, -1)");
        refusedWithoutTown(3, "UNKNOWN; ", UNKNOWN, KEPT, "ofThing(0, 0)", "ofThing(0, 3)");
        refusedWithTown(5, "UNKNOWN: it is no CASE.", UNKNOWN, KEPT, "weight(4)", "weight(6)", "weight(8)", "weight(-1)",
            "weight(32)", "weight(63)", "weight(64)", "weight(65)", "weight(MIN)", "weight(MAX)");
        refusedWithoutTown(5, "UNKNOWN: it is no CASE.", UNKNOWN, KEPT, "weight(0)", "weight(1)");
        refusedWithTown(33, "OUTSIDE.", OUTSIDE, KEPT, "many(-1)", "many(4)", "many(MIN)", "many(MAX)");
        refusedWithoutTown(33, "OUTSIDE.", OUTSIDE, KEPT, "many(-1)", "many(4)");
    }

    private static void listsAndBreaths() {
        refusedWithTown(6, "UNKNOWN; ", UNKNOWN, KEPT, "list(-1, 0)", "list(6, 0)", "list(MIN, 0)", "list(MAX, 0)");
        refusedWithTown(6, "OUTSIDE: a bit of no THING; ", OUTSIDE, KEPT, "list(0, 8)", "list(0, 9)", "list(0, 64)", "list(5, -1)",
            "list(0, -9)", "list(0, MIN)", "list(0, MAX)");
        refusedWithoutTown(6, "OUTSIDE: a bit of no THING; ", OUTSIDE, KEPT, "list(0, 1)", "list(0, -1)");
        refusedWithoutTown(6, "STATE: there is no TOWN.", STATE, KEPT, "list(0, 0)", "list(5, 0)");
        firstOfSeveral(6, UNKNOWN, KEPT, "list(6, 8)", "list(-1, -1)", "list(6, 0)");
        firstOfSeveral(6, OUTSIDE, KEPT, "list(0, 8)", "list(5, 64)");
        refusedWithTown(7, "UNKNOWN; ", UNKNOWN, KEPT, "breath(-1, 0)", "breath(6, 0)", "breath(MIN, 9)", "breath(MAX, 9)");
        refusedWithTown(7, "OUTSIDE; ", OUTSIDE, KEPT, "breath(0, -1)", "breath(0, 19)", "breath(5, MIN)", "breath(5, MAX)");
        refusedWithoutTown(7, "STATE: there is no TOWN.", STATE, KEPT, "breath(0, 0)", "breath(5, 18)");
        firstOfSeveral(7, UNKNOWN, KEPT, "breath(6, 19)", "breath(-1, -1)", "breath(6, 0)");
        firstOfSeveral(7, OUTSIDE, KEPT, "breath(0, 19)", "breath(5, -1)");
    }

    private static void callsAndHeard() {
        refusedWithTown(8, "UNKNOWN: CASE, HOUR.", UNKNOWN, KEPT, "called(4, 0)", "called(6, 0)", "called(8, 0)", "called(-1, 0)",
            "called(64, 0)", "called(MIN, 0)", "called(MAX, 0)", "called(0, -1)", "called(0, 6)", "called(0, MIN)",
            "called(0, MAX)", "called(4, 6)");
        refusedWithoutTown(8, "UNKNOWN: CASE, HOUR.", UNKNOWN, KEPT, "called(0, 0)", "called(0, 6)");
        refusedWithTown(9, "UNKNOWN; ", UNKNOWN, KEPT, "hear(-1, 0)", "hear(6, 0)", "hear(6, -9)", "hear(MIN, 0)", "hear(MAX, 0)");
        refusedWithTown(9, "OUTSIDE: a bit of no THING; ", OUTSIDE, KEPT, "hear(0, 8)", "hear(0, -1)", "hear(0, -8)",
            "hear(0, -10)", "hear(5, MIN)", "hear(5, MAX)");
        refusedWithoutTown(9, "STATE: there is no TOWN.", STATE, KEPT, "hear(0, 0)", "hear(5, -9)");
        firstOfSeveral(9, UNKNOWN, KEPT, "hear(6, 8)", "hear(-1, -1)", "hear(6, -9)");
        firstOfSeveral(9, OUTSIDE, KEPT, "hear(0, 8)", "hear(5, -1)");
    }

    private static void thinking() {
        refusedWithTown(11, "OUTSIDE; ", OUTSIDE, KEPT, "sure(-1)", "sure(2)", "sure(MIN)", "sure(MAX)");
        refusedWithoutTown(11, "STATE: there is no TOWN.", STATE, KEPT, "sure(0)", "sure(1)");
        firstOfSeveral(11, OUTSIDE, KEPT, "sure(2)", "sure(-1)");
        refusedWithTown(12, "LOST: UNKNOWN; ", LOST, KEPT, "chance(-1, 0)", "chance(3, 1)", "chance(MIN, 0)", "chance(MAX, 1)",
            "chance(3, 2)");
        refusedWithTown(12, "OUTSIDE.", LOST, KEPT, "chance(0, -1)", "chance(0, 2)", "chance(0, MIN)", "chance(0, MAX)");
        refusedWithoutTown(12, "LOST: UNKNOWN; ", LOST, KEPT, "chance(0, 0)", "chance(0, 1)");
    }

    private static void parts() {
        refusedWithTown(13, "OUTSIDE; ", OUTSIDE, KEPT, "parts(-1)", "parts(7)", "parts(MIN)", "parts(MAX)");
        refusedWithoutTown(13, "STATE: there is no TOWN.", STATE, KEPT, "parts(0)", "parts(6)");
        firstOfSeveral(13, OUTSIDE, KEPT, "parts(7)", "parts(-1)");
        refusedWithTown(14, "UNKNOWN; ", UNKNOWN, KEPT, "best(-1, 0)", "best(6, 0)", "best(MIN, 1)", "best(MAX, 1)");
        refusedWithTown(14, "OUTSIDE; ", OUTSIDE, KEPT, "best(0, -1)", "best(5, 2)", "best(0, MIN)", "best(0, MAX)");
        refusedWithoutTown(14, "STATE: there is no TOWN.", STATE, KEPT, "best(0, 0)", "best(5, 1)");
        firstOfSeveral(14, UNKNOWN, KEPT, "best(6, 2)", "best(-1, -1)", "best(6, 0)");
        firstOfSeveral(14, OUTSIDE, KEPT, "best(0, 2)", "best(5, -1)");
        refusedWithTown(15, "LOST: UNKNOWN; ", LOST, KEPT, "words(-1, 0)", "words(6, 0)", "words(MIN, 1)", "words(MAX, 1)",
            "words(6, 2)");
        refusedWithTown(15, "OUTSIDE; ", LOST, KEPT, "words(0, -1)", "words(5, 2)", "words(0, MIN)", "words(0, MAX)");
        refusedWithoutTown(15, "STATE: there is no TOWN.", LOST, KEPT, "words(0, 0)", "words(5, 1)");
    }

    private static void secrets() {
        refusedWithTown(16, "UNKNOWN: CASE, THING, HOUR; ", UNKNOWN, KEPT, "secret(4, 0, 0, 0)", "secret(8, 0, 0, 0)",
            "secret(-1, 0, 0, 0)", "secret(64, 0, 0, 0)", "secret(0, 0, 3, 0)", "secret(0, 0, -1, 0)", "secret(0, 0, MAX, 0)",
            "secret(0, 0, 0, 6)", "secret(0, 0, 0, -1)", "secret(0, 0, 0, MIN)");
        refusedWithTown(16, "OUTSIDE: friends: a bit of no THING.", OUTSIDE, KEPT, "secret(0, 8, 0, 0)", "secret(0, -1, 0, 0)",
            "secret(0, -9, 0, 0)", "secret(0, MIN, 0, 0)", "secret(0, MAX, 0, 0)");
        firstOfSeveral(16, UNKNOWN, KEPT, "secret(4, 8, 0, 0)", "secret(0, 8, 3, 0)", "secret(0, 8, 0, 6)", "secret(4, 8, 3, 6)");
        refusedWithoutTown(16, "UNKNOWN: CASE, THING, HOUR; ", UNKNOWN, KEPT, "secret(0, 0, 0, 0)");
        refusedWithTown(17, "UNKNOWN: THING, HOUR.", UNKNOWN, KEPT, "shortest(-1, 0)", "shortest(3, 0)", "shortest(MIN, 0)",
            "shortest(MAX, 0)", "shortest(0, -1)", "shortest(0, 6)", "shortest(0, MIN)", "shortest(0, MAX)", "shortest(3, 6)");
        refusedWithoutTown(17, "UNKNOWN: THING, HOUR.", UNKNOWN, KEPT, "shortest(0, 0)");
        refusedWithTown(18, "UNKNOWN: HOUR; ", UNKNOWN, KEPT, "two(0, 0, -1)", "two(0, 0, 6)", "two(0, 0, MIN)", "two(0, 0, MAX)");
        refusedWithTown(18, "OUTSIDE: a bit of no THING; ", OUTSIDE, KEPT, "two(8, 0, 0)", "two(0, 8, 0)", "two(-1, 0, 0)",
            "two(0, -9, 0)", "two(MIN, 0, 0)", "two(0, MAX, 0)");
        refusedWithoutTown(18, "STATE: there is no TOWN.", STATE, KEPT, "two(0, 0, 0)", "two(0, 0, 5)");
        firstOfSeveral(18, UNKNOWN, KEPT, "two(8, 0, 6)", "two(0, 8, -1)", "two(0, 0, 6)");
        firstOfSeveral(18, OUTSIDE, KEPT, "two(8, 0, 0)", "two(0, 8, 5)");
    }

    private static void readings() {
        refusedWithTown(19, "UNKNOWN: CASE, HOUR; ", UNKNOWN, KEPT, "reading(4, 0, 0)", "reading(8, 0, 0)", "reading(-1, 0, 0)",
            "reading(64, 0, 0)", "reading(MIN, 0, 0)", "reading(0, 6, 0)", "reading(0, -1, 0)", "reading(0, MAX, 0)");
        refusedWithTown(19, "OUTSIDE: a bit of no THING; ", OUTSIDE, KEPT, "reading(0, 0, 8)", "reading(0, 0, -1)",
            "reading(0, 0, -9)", "reading(0, 0, MIN)", "reading(0, 0, MAX)");
        firstOfSeveral(19, UNKNOWN, KEPT, "reading(4, 0, 8)", "reading(0, 6, 8)", "reading(4, 6, 0)");
        refusedWithoutTown(19, "UNKNOWN: CASE, HOUR; ", UNKNOWN, KEPT, "reading(0, 0, 0)");
        says(19, "FULL.");
        refused(RefusalsTest::full, FULL, KEPT, "reading(0, 0, 0)", "reading(7, 5, 7)");
        says(19, "of several the first in the order in which a call's line tells them.");
        refused(RefusalsTest::full, UNKNOWN, KEPT, "reading(4, 0, 0)", "reading(0, 6, 8)");
        refused(RefusalsTest::full, OUTSIDE, KEPT, "reading(0, 0, 8)");
        refusedWithTown(20, "OUTSIDE.", OUTSIDE, KEPT, "back(-1)", "back(4)", "back(MIN)", "back(MAX)");
        refused(RefusalsTest::full, OUTSIDE, KEPT, "back(9)", "back(-1)");
        refusedWithoutTown(20, "OUTSIDE.", OUTSIDE, KEPT, "back(-1)", "back(1)");
    }

    private static void rules() {
        refusedWithTown(21, "UNKNOWN: HOUR, k below -1; ", UNKNOWN, KEPT, "rules(-1, 0)", "rules(6, 0)", "rules(MIN, -1)",
            "rules(MAX, -1)", "rules(0, -2)", "rules(0, MIN)", "rules(6, -2)");
        refusedWithoutTown(21, "STATE: there is no TOWN.", STATE, KEPT, "rules(0, -1)", "rules(0, 0)", "rules(5, MAX)");
        firstOfSeveral(21, UNKNOWN, KEPT, "rules(6, 0)", "rules(0, -2)", "rules(-1, -1)");
        refusedWithTown(21, "(there is no such THING, HOUR, CASE, SHEET, place)", UNKNOWN, KEPT, "rules(0, -2)");
    }

    private static void night() {
        refusedWithTown(22, "UNKNOWN: SHEET; ", UNKNOWN, 0, "night(-1, 1, 0, 1)", "night(4, 1, 0, 1)", "night(MIN, 1, 0, 1)",
            "night(MAX, 1, 0, 1)");
        refusedWithTown(22, "OUTSIDE: lane; ", OUTSIDE, 0, "night(1, -1, 0, 1)", "night(1, 3, 0, 1)", "night(1, MIN, 0, 1)",
            "night(3, MAX, 0, 1)");
        refusedWithoutTown(22, "STATE: there is no TOWN; ", STATE, 0, "night(1, 1, 0, 0)", "night(1, 1, 0, 6)",
            "night(1, 1, 9, 0)");
        refusedWithTown(22, "OUTSIDE: n above 6, a BREATH.", OUTSIDE, 0, "night(1, 1, 0, 7)", "night(1, 1, 0, 9)",
            "night(1, 1, 7, 1)", "night(1, 1, 8, 1)", "night(1, 1, 6, 2)", "night(2, 2, 0, 2)", "night(0, 0, 0, 5)");
        firstOfSeveral(22, UNKNOWN, 0, "night(4, 3, -1, -1)");
        firstOfSeveral(22, OUTSIDE, 0, "night(1, 3, -1, -1)", "night(3, 3, 0, 0)", "night(1, -1, 0, 9)");
        firstOfSeveral(22, CAST, 2, "night(1, 0, -1, -1)", "night(1, 2, 0, 9)");
        firstOfSeveral(22, NULL, 1, "night(3, 0, -1, -1)", "night(3, 1, 0, 9)");
        firstOfSeveral(22, SIZE, 4, "night(1, 1, -1, -1)", "night(1, 1, 99, -1)");
        firstOfSeveral(22, INDEX, 3, "night(1, 1, 0, 10)", "night(1, 1, 8, 2)", "night(1, 1, 10, 0)");
        says(22, "of several the first in the order in which a call's line tells them.");
        refused(RefusalsTest::withoutTown, STATE, 0, "night(1, 1, 0, 7)", "night(1, 1, 8, 1)");
    }

    private static void nightFaults() {
        refusedWithTown(22, "CAST; ", CAST, 2, "night(0, 1, 0, 1)", "night(0, 2, 0, 1)", "night(1, 0, 0, 1)", "night(1, 2, 0, 1)",
            "night(2, 0, 0, 1)", "night(2, 1, 0, 1)");
        refusedWithTown(22, "NULL; ", NULL, 1, "night(3, 0, 0, 1)", "night(3, 1, 0, 0)", "night(3, 2, 0, 1)");
        refusedWithTown(22, "SIZE; ", SIZE, 4, "night(1, 1, 0, -1)", "night(1, 1, 9, -1)", "night(1, 1, 0, MIN)");
        refusedWithTown(22, "INDEX; ", INDEX, 3, "night(1, 1, -1, 1)", "night(1, 1, 9, 1)", "night(1, 1, 4, 6)",
            "night(1, 1, MAX, 1)", "night(1, 1, MIN, 1)", "night(1, 1, 1, MAX)", "night(1, 1, MAX, MAX)");
        refusedWithTown(22, "3 INDEX (of cells from i on also where i is not 0 .. how many there are, if none of them is taken, too)",
            INDEX, 3, "night(1, 1, -1, 0)", "night(1, 1, 10, 0)", "night(2, 2, 3, 0)", "night(1, 1, MAX, 0)");
    }

    private static void sheets() {
        refusedWithTown(23, "UNKNOWN; ", UNKNOWN, 0, "sheet(-1, 0, 1)", "sheet(4, 0, 1)", "sheet(MIN, 0, 1)", "sheet(MAX, 0, 1)");
        refusedWithTown(23, "OUTSIDE: lane, n above 60; ", OUTSIDE, 0, "sheet(0, -1, 1)", "sheet(0, 3, 1)", "sheet(0, MIN, 1)",
            "sheet(3, MAX, 1)", "sheet(0, 0, 61)", "sheet(0, 2, MAX)", "sheet(3, 1, 61)");
        refusedWithTown(23, "SIZE.", SIZE, 4, "sheet(0, 0, -1)", "sheet(3, 2, -1)", "sheet(1, 1, MIN)");
        refusedWithTown(23, "4 SIZE (a length below 0).", SIZE, 4, "sheet(2, 2, -60)");
        firstOfSeveral(23, UNKNOWN, 0, "sheet(4, 3, 61)", "sheet(-1, -1, -1)");
        firstOfSeveral(23, OUTSIDE, 0, "sheet(0, 3, -1)", "sheet(3, -1, -1)");
        refusedWithTown(24, "UNKNOWN.", UNKNOWN, KEPT, "lose(-1)", "lose(4)", "lose(MIN)", "lose(MAX)");
    }

    private static void cells() {
        refusedWithTown(25, "UNKNOWN; ", UNKNOWN, 0, "put(-1, 0, 1)", "put(4, 0, 1)", "put(MIN, 0, 1)", "put(MAX, 0, 1)");
        refusedWithTown(25, "NULL; ", NULL, 1, "put(3, 0, 1)");
        refusedWithTown(25, "INDEX.", INDEX, 3, "put(0, -1, 1)", "put(0, 5, 1)", "put(1, 9, 1)", "put(2, 2, 1)", "put(0, MIN, 1)",
            "put(0, MAX, 1)");
        firstOfSeveral(25, UNKNOWN, 0, "put(4, -1, 1)", "put(-1, 99, 1)");
        firstOfSeveral(25, NULL, 1, "put(3, -1, 1)", "put(3, 60, 1)");
        refusedWithTown(26, "LOST: UNKNOWN, OUTSIDE: lane; ", LOST, 0, "cell(-1, 0, 0)", "cell(4, 0, 0)", "cell(MIN, 0, 0)",
            "cell(MAX, 0, 0)", "cell(0, 0, -1)", "cell(0, 0, 3)", "cell(0, 0, MIN)", "cell(3, 0, MAX)");
        refusedWithTown(26, "FAULTS CAST (nothing is no CAST), ", LOST, 2, "cell(0, 0, 1)", "cell(0, 0, 2)", "cell(1, 0, 0)",
            "cell(1, 0, 2)", "cell(2, 0, 0)", "cell(2, 0, 1)");
        refusedWithTown(26, "NULL, ", LOST, 1, "cell(3, 0, 0)", "cell(3, 0, 1)", "cell(3, 0, 2)");
        refusedWithTown(26, "INDEX.", LOST, 3, "cell(0, -1, 0)", "cell(0, 5, 0)", "cell(1, 9, 1)", "cell(2, 2, 2)",
            "cell(0, MIN, 0)", "cell(0, MAX, 0)");
        firstOfSeveral(26, LOST, 0, "cell(4, 99, 3)", "cell(3, -1, 3)", "cell(0, -1, -1)");
        firstOfSeveral(26, LOST, 2, "cell(0, -1, 1)", "cell(2, 2, 0)");
        firstOfSeveral(26, LOST, 1, "cell(3, -1, 1)", "cell(3, 99, 0)");
    }

    private static void copy() {
        refusedWithTown(27, "UNKNOWN; ", UNKNOWN, 0, "copy(-1, 0, 0, 0, 1)", "copy(4, 0, 0, 0, 1)", "copy(0, 0, -1, 0, 1)",
            "copy(0, 0, 4, 0, 1)", "copy(MIN, 0, MAX, 0, 1)");
        refusedWithTown(27, "FAULTS NULL (the first, the other), ", NULL, 1, "copy(3, 0, 0, 0, 1)", "copy(0, 0, 3, 0, 1)",
            "copy(3, 0, 3, 0, 0)");
        refusedWithTown(27, "CAST (unlike LANES), ", CAST, 2, "copy(0, 0, 1, 0, 1)", "copy(1, 0, 0, 0, 1)", "copy(0, 0, 2, 0, 1)",
            "copy(2, 0, 0, 0, 1)", "copy(1, 0, 2, 0, 1)", "copy(2, 0, 1, 0, 0)");
        refusedWithTown(27, "INDEX: i, j, n below 0 or beyond.", INDEX, 3, "copy(0, -1, 0, 0, 1)", "copy(0, 0, 0, -1, 1)",
            "copy(0, 0, 0, 0, -1)", "copy(0, 5, 0, 0, 1)", "copy(0, 0, 0, 5, 1)", "copy(0, 0, 0, 0, 6)", "copy(0, 3, 0, 0, 3)",
            "copy(0, 0, 0, 3, 3)", "copy(0, MIN, 0, 0, 1)", "copy(0, 0, 0, MIN, 1)", "copy(0, 0, 0, 0, MIN)",
            "copy(0, MAX, 0, 0, 1)", "copy(0, 0, 0, MAX, 1)", "copy(0, 1, 0, 1, MAX)", "copy(0, MAX, 0, MAX, MAX)");
        refusedWithTown(27, "3 INDEX (of cells from i on also where i is not 0 .. how many there are, if none of them is taken, too)",
            INDEX, 3, "copy(0, -1, 0, 0, 0)", "copy(0, 6, 0, 0, 0)", "copy(0, 0, 0, -1, 0)", "copy(0, 0, 0, 6, 0)",
            "copy(2, 3, 2, 0, 0)", "copy(0, MAX, 0, 0, 0)", "copy(0, 0, 0, MIN, 0)");
        firstOfSeveral(27, UNKNOWN, 0, "copy(3, -1, 4, 0, -1)", "copy(4, 0, 3, -1, 9)");
        firstOfSeveral(27, NULL, 1, "copy(3, -1, 0, 0, 1)", "copy(0, -1, 3, 0, -1)");
        firstOfSeveral(27, CAST, 2, "copy(0, -1, 1, 0, 1)", "copy(1, 0, 2, -1, -1)", "copy(0, 0, 2, 99, 0)");
    }

    private static void tellings() {
        refusedWithTown(28, "UNKNOWN.", UNKNOWN, KEPT, "tell(-1)", "tell(3)", "tell(6)", "tell(MIN)", "tell(MAX)");
        refusedWithoutTown(28, "UNKNOWN.", UNKNOWN, KEPT, "tell(0)");
        refusedWithTown(29, "UNKNOWN.", UNKNOWN, KEPT, "fear(-1)", "fear(3)", "fear(6)", "fear(MIN)", "fear(MAX)");
        refusedWithoutTown(29, "UNKNOWN.", UNKNOWN, KEPT, "fear(0)");
        refusedWithTown(30, "UNKNOWN; ", UNKNOWN, 0, "as(-1, 0)", "as(3, 0)", "as(MIN, 0)", "as(MAX, 0)");
        refusedWithTown(30, "OUTSIDE; ", OUTSIDE, 0, "as(0, -1)", "as(1, 3)", "as(0, MIN)", "as(0, MAX)");
        refusedWithTown(30, "CAST: it is none.", CAST, 2, "as(0, 1)", "as(0, 2)", "as(2, 2)");
        firstOfSeveral(30, UNKNOWN, 0, "as(3, 3)", "as(-1, -1)", "as(3, 2)");
        refusedWithoutTown(30, "UNKNOWN; ", UNKNOWN, 0, "as(0, 0)", "as(0, 3)");
    }

    private static void general() {
        refusedWithTown(8, "REFUSALS: UNKNOWN (there is no such THING, HOUR, CASE, SHEET, place)", UNKNOWN, KEPT, "ofThing(3, 0)",
            "list(6, 0)", "weight(4)", "lose(4)", "rules(0, -2)");
        refusedWithTown(13, ", OUTSIDE (another number is not as told)", OUTSIDE, KEPT, "parts(7)", "list(0, 8)", "back(4)");
        refusedWithoutTown(13, ", STATE (as told)", STATE, KEPT, "parts(0)", "list(0, 0)");
        says(19, ", FULL;");
        refused(RefusalsTest::full, FULL, KEPT, "reading(0, 0, 0)");
        refusedWithTown(23, "They change nothing (but fault(), of a call that names FAULTS).", OUTSIDE, 0, "sheet(0, 0, 61)",
            "town(0, 3, 0, 5)", "as(0, 3)");
        refusedWithTown(6, "They change nothing (but fault(), of a call that names FAULTS).", OUTSIDE, KEPT, "list(0, 8)");
        refusedWithTown(25, "FAULTS are the machine's: 1 NULL (there is nothing)", NULL, 1, "put(3, 0, 0)");
        refusedWithTown(30, ", 2 CAST (it is of another LANE, kind)", CAST, 2, "as(0, 1)", "town(0, 1, 0, 0)");
        refusedWithTown(27, "Of a call the first that is come to, in the order told;", NULL, 1, "copy(3, -1, 2, 0, -1)");
        refusedWithTown(22, "it answers -10 less it", SIZE, 4, "night(1, 1, 0, -1)");
        refusedWithTown(26, "(LOST, where a long is answered, as for refusals)", LOST, 2, "cell(0, 0, 1)");
        refusedWithTown(26, "(LOST, where a long is answered, as for refusals)", LOST, 0, "cell(0, 0, 3)");
        refusedWithTown(23, " and changes nothing; fault() tells it.", SIZE, 4, "sheet(0, 0, -1)");
    }
}
