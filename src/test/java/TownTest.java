/** Promises 1 to 7 and 33: a new object, the TEXT, THINGS, CASES, WEIGHTS, LISTS, BREATHS, how many. */
public final class TownTest extends Sentences {
    public static void main(String[] args) {
        new TownTest().run();
    }

    @Override
    void all() {
        newObject();
        cellsOfText();
        things();
        follows();
        firstFaults();
        codes();
        kinds();
        allAnew();
        fewerThings();
        cases();
        weights();
        lists();
        breaths();
        howMany();
    }

    /** What a TEXT in a SHEET of its own is answered with. */
    private static void textDue(String text, int want) {
        due("town of '" + text + "'", Due.takeText(new UnsaidCalls(), text), want);
    }

    private static void faultDue(String text, int place) {
        textDue(text, -100 - place);
    }

    private static void newObject() {
        UnsaidCalls x = new UnsaidCalls();
        says(1, "No TOWN (no THINGS)");
        due(x, "many(0)", 0);
        due(x, "many(1)", 0);
        due(x, "cases()", 0);
        due(x, "ofThing(0, 0)", UNKNOWN);
        due(x, "weight(0)", UNKNOWN);
        due(x, "list(0, 0)", STATE);
        due(x, "list(0, 1)", OUTSIDE);
        due(x, "called(0, 0)", UNKNOWN);
        due(x, "tell(0)", UNKNOWN);
        due(x, "fear(0)", UNKNOWN);
        due(x, "as(0, 0)", UNKNOWN);
        says(1, "SHEETS have nothing.");
        for (int k = 0; k < 4; k++) {
            due(x, "lose(" + k + ")", 0);
            due(x, "put(" + k + ", 0, 0)", NULL);
            due(x, "cell(" + k + ", 0, " + k % 3 + ")", LOST);
            due(x, "fault()", 1);
        }
    }

    private static void cellsOfText() {
        for (int lane = 0; lane < 3; lane++) {
            UnsaidCalls x = new UnsaidCalls();
            Due.write(x, lane, lane, "zzwt1d2;10zz");
            String row = "town(" + lane + ", " + lane + ", ";
            says(2, "A TOWN by a TEXT of n cells of a SHEET from i on");
            due(x, row + "2, 8)", 2);
            due(x, "cases()", 0b1011);
            due(x, row + "2, 5)", 2);
            due(x, "cases()", 0b1111);
            due(x, row + "2, 9)", -108);
            due(x, row + "1, 9)", -100);
            due(x, row + "12, 0)", -100);
            says(2, "taken as a row of a LANE");
            for (int other = 0; other < 3; other++) {
                due(x, "town(" + lane + ", " + other + ", 2, 8)", other == lane ? 2 : CAST);
            }
        }
        UnsaidCalls full = new UnsaidCalls();
        Due.write(full, 0, 0, "z".repeat(47) + "wt1t2t3t4t5t6");
        says(2, "A TOWN by a TEXT of n cells of a SHEET from i on");
        due(full, "town(0, 0, 47, 13)", 6);
        due(full, "town(0, 0, 47, 14)", INDEX);
        due(full, "town(0, 0, 59, 1)", -100);
        due(full, "town(0, 0, 60, 0)", -100);
        due(full, "town(0, 0, 0, 60)", -100);
        says(2, "how many THINGS; -100 less the FIRST FAULT.");
        String text = "wt1l2d3t4l5d6";
        for (int things = 0; things <= 6; things++) {
            textDue(text.substring(0, 1 + 2 * things), things < 2 ? -101 - 2 * things : things);
        }
        textDue("wt1l2x", -105);
    }

    private static void things() {
        says(2, "A TOWN by a TEXT: w, then 2 to 6 THINGS");
        faultDue("", 0);
        faultDue("t1t2", 0);
        faultDue("w", 1);
        faultDue("wt1", 3);
        textDue("wt1t2", 2);
        textDue("wt1t2t3t4t5t6", 6);
        faultDue("wt1t2t3t4t5t6t7", 13);
        faultDue("ww", 1);
        faultDue("wt1;", 3);
        faultDue("w;", 1);
        says(3, ", numbered from 0 on");
        UnsaidCalls two = Due.townOf("wt3d7");
        due(two, "ofThing(-1, 1)", UNKNOWN);
        due(two, "ofThing(0, 1)", 3);
        due(two, "ofThing(1, 1)", 7);
        due(two, "ofThing(2, 1)", UNKNOWN);
        UnsaidCalls six = Due.townOf("wt1t2t3t4t5l6");
        due(six, "ofThing(5, 1)", 6);
        due(six, "ofThing(6, 1)", UNKNOWN);
        says(2, "each a letter and a digit 1 .. 9");
        faultDue("wt0t1", 2);
        textDue("wt1t9", 2);
        faultDue("wt:t1", 2);
        faultDue("wt/t1", 2);
        faultDue("wt1t0", 4);
        faultDue("wt1t:", 4);
        faultDue("wtt", 2);
        faultDue("w11", 1);
        faultDue("wt12", 3);
        says(12, "(of ten nights on so many it is the case)");
        UnsaidCalls x = Due.townOf("wt1l9");
        due(x, "chance(0, 0)", 1);
        due(x, "chance(0, 1)", 10);
        due(x, "chance(1, 0)", 9);
        due(x, "chance(1, 1)", 10);
        says(3, "Of a THING: 0 kind, 1 its digit, 2 how many words it is.");
        UnsaidCalls three = Due.townOf(TOWN);
        int[][] answers = {{0, 2, 1}, {2, 9, 3}, {1, 4, 2}};
        for (int t = 0; t < 3; t++) {
            for (int what = 0; what < 3; what++) {
                due(three, "ofThing(" + t + ", " + what + ")", answers[t][what]);
            }
        }
    }

    private static void follows() {
        says(2, "then 0 to 4 times: ; and two digits");
        textDue("wt1t2", 2);
        textDue("wt1t2;01", 2);
        textDue("wt1t2;01;10", 2);
        textDue("wt1t2;01;10;01", 2);
        textDue("wt1t2;01;10;01;10", 2);
        faultDue("wt1t2;01;10;01;10;01", 17);
        textDue("wt1t2t3t4t5t6;50;05;45;01", 6);
        faultDue("wt1t2;01t3", 8);
        faultDue("wt1t2;012", 8);
        faultDue("wt1t201", 5);
        says(2, "(unlike THINGS a, b: if a is the case, b is, too).");
        due(Due.townOf("wt1t2"), "cases()", 0b1111);
        due(Due.townOf("wt1t2;01"), "cases()", 0b1101);
        due(Due.townOf("wt1t2;10"), "cases()", 0b1011);
        due(Due.townOf("wt1t2;01;10"), "cases()", 0b1001);
        due(Due.townOf("wt1t2;01;01;01;01"), "cases()", 0b1101);
        due(Due.townOf("wt1t2t3t4t5t6;05"), "many(1)", 48);
        due(Due.townOf("wt1t1t1t1t1t1;05;54;43;32"), "many(1)", 12);
    }

    private static void firstFaults() {
        says(2, "FIRST FAULT: the place (from 0 on) of the first code with which no TEXT goes on");
        faultDue("x", 0);
        faultDue(" wt1t2", 0);
        faultDue("wx", 1);
        faultDue("wtx", 2);
        faultDue("wt1x", 3);
        faultDue("wt1tx", 4);
        faultDue("wt1t2x", 5);
        faultDue("wt1t2;x", 6);
        faultDue("wt1t2;0x", 7);
        faultDue("wt1t2;01x", 8);
        faultDue("wt1t2w", 5);
        faultDue("wxxxx", 1);
        says(2, "(the letter of a seventh THING");
        faultDue("wt1t1t1t1t1t1t", 13);
        faultDue("wt1t1t1t1t1t1l1", 13);
        faultDue("wt1t1t1t1t1t1d1;01", 13);
        textDue("wt1t1t1t1t1t1;05", 6);
        says(2, ", a digit of no THING");
        faultDue("wt1t2;20", 6);
        faultDue("wt1t2;02", 7);
        faultDue("wt1t2t3;30", 8);
        faultDue("wt1t2t3;23", 9);
        textDue("wt1t2t3;21", 3);
        faultDue("wt1t1t1t1t1t1;60", 14);
        faultDue("wt1t1t1t1t1t1;06", 15);
        faultDue("wt1t1t1t1t1t1;90", 14);
        says(2, ", the second one as the first");
        faultDue("wt1t2;00", 7);
        faultDue("wt1t2;11", 7);
        faultDue("wt1t1t1t1t1t1;55", 15);
        says(2, ", the ; of a fifth)");
        faultDue("wt1t2;01;01;01;01;", 17);
        faultDue("wt1t1t1t1t1t1;01;02;03;04;05", 25);
        says(2, "how many codes there are, if it just ends too soon.");
        String text = "wt1t2;01;10;01;10";
        for (int n = 0; n < text.length(); n++) {
            boolean whole = n >= 5 && (n - 5) % 3 == 0;
            textDue(text.substring(0, n), whole ? 2 : -100 - n);
        }
        faultDue("wt1t1t1t1t1t1;05;", 17);
        faultDue("wt1t1t1t1t1t1;05;4", 18);
    }

    /** A TEXT of the least form, of which one code is put by its number. */
    private static void codeDue(int at, int code, int want) {
        UnsaidCalls x = new UnsaidCalls();
        Due.write(x, 0, 2, "wt1t2;01");
        x.put(0, at, code);
        due("town with the code " + code + " at " + at, x.town(0, 2, 0, 8), want);
    }

    private static void codes() {
        says(2, "(Codes: w 119, t 116, l 108, d 100, ; 59, digits 48 .. 57.)");
        for (int code = -1; code < 130; code++) {
            boolean letter = code == 116 || code == 108 || code == 100;
            boolean digit = code >= 49 && code <= 57;
            codeDue(0, code, code == 119 ? 2 : -100);
            codeDue(1, code, letter ? 2 : -101);
            codeDue(2, code, digit ? 2 : -102);
            codeDue(3, code, letter ? 2 : -103);
            codeDue(5, code, code == 59 ? 2 : letter ? -106 : -105);
            codeDue(6, code, code == 48 ? 2 : code == 49 ? -107 : -106);
            codeDue(7, code, code == 49 ? 2 : -107);
        }
        codeDue(0, 119 + 65536, -100);
        codeDue(0, 119 + 256, -100);
        codeDue(0, 119 - 256, -100);
        codeDue(2, 49 + 256, -102);
        codeDue(6, Integer.MIN_VALUE, -106);
        codeDue(7, Integer.MAX_VALUE, -107);
    }

    private static void kinds() {
        UnsaidCalls x = Due.townOf("wt5l5d5");
        says(3, "Kinds: 0 THING (t); 1 LONG (l), a THING; 2 DREADED (d), a LONG.");
        for (int t = 0; t < 3; t++) {
            due(x, "ofThing(" + t + ", 0)", t);
            for (int kind = 0; kind < 3; kind++) {
                due(x, "as(" + t + ", " + kind + ")", kind <= t ? 1 : CAST);
            }
        }
    }

    private static void allAnew() {
        UnsaidCalls x = Due.townOf("wt5d5l5;01");
        for (int hour = 0; hour < 6; hour++) {
            ready(x, "list(" + hour + ", 7)", "breath(" + hour + ", " + hour + ")", "hear(" + hour + ", 0)");
        }
        for (int k = 0; k < 8; k++) {
            ready(x, "reading(0, " + k % 6 + ", 1)");
        }
        ready(x, "tell(0)", "sheet(1, 1, 2)", "put(1, 1, 8)");
        says(2, "A TEXT that is taken makes all anew");
        due(x, "many(2)", 6);
        due(x, "many(3)", 8);
        due("a TEXT that is not taken", Due.takeText(x, "wt1t0"), -104);
        due(x, "many(0)", 3);
        due(x, "many(1)", 6);
        due(x, "many(2)", 6);
        due(x, "many(3)", 8);
        due(x, "breath(5, 5)", 5);
        due(x, "ofThing(1, 0)", 2);
        due(x, "weight(0)", 125);
        due("a TEXT that is taken", Due.takeText(x, "wl1t1"), 2);
        due(x, "many(0)", 2);
        due(x, "cases()", 15);
        due(x, "weight(0)", 81);
        due(x, "ofThing(0, 0)", 1);
        due(x, "ofThing(1, 0)", 0);
        due(x, "ofThing(2, 0)", UNKNOWN);
        says(31, ", but for SHEETS and TRACE");
        due(x, "trace()", 1);
        due(x, "cell(1, 1, 1)", 8);
        due(x, "cell(3, 0, 2)", 119);
        says(2, "LISTS have nothing, BREATH 9 of all HOURS, nothing HEARD, no READINGS.");
        due(x, "many(2)", 0);
        due(x, "many(3)", 0);
        for (int hour = 0; hour < 6; hour++) {
            due(x, "list(" + hour + ", 0)", 0);
            due(x, "breath(" + hour + ", 9)", 9);
            due(x, "hear(" + hour + ", -9)", NONE);
            due(x, "rules(" + hour + ", -1)", 4);
        }
        due("more THINGS again", Due.takeText(x, "wt1t1d1l1t1t1"), 6);
        due(x, "many(1)", 64);
        due("the same TEXT once more", Due.takeText(x, "wt1t1d1l1t1t1"), 6);
    }

    private static void fewerThings() {
        UnsaidCalls x = Due.townOf("wd9d9d9d9d9d9");
        ready(x, "list(0, 63)", "breath(0, 18)");
        says(2, "A TEXT that is taken makes all anew");
        due(x, "parts(1)", 64);
        due("fewer THINGS", Due.takeText(x, TOWN), 3);
        due(x, "cases()", 0b10101111);
        due(x, "thought()", 0b10101111);
        due(x, "many(1)", 6);
        due(x, "weight(8)", UNKNOWN);
        due(x, "best(0, 0)", 7);
        due(x, "best(0, 1)", 6);
        due(x, "secret(2, 1, 2, 0)", 0);
        due(x, "secret(2, 1, 1, 0)", NONE);
        due(x, "shortest(2, 0)", 4);
        due(x, "two(7, 0, 0)", 6);
        due(x, "rules(0, -1)", 8);
        due(x, "list(0, 7)", 0);
        due(x, "breath(0, 3)", 9);
        due(x, "called(0, 0)", 2);
        due(x, "called(2, 0)", 5);
        due(x, "words(0, 0)", 429);
        due(x, "words(0, 1)", 170);
    }

    private static void cases() {
        says(4, "A CASE is a set of THINGS (those that are so) by which all that follows is so: numbered as that set;");
        UnsaidCalls x = Due.townOf(TOWN);
        boolean[] isCase = {true, true, true, true, false, true, false, true, false};
        for (int c = 0; c < isCase.length; c++) {
            due("bit " + c + " of cases()", x.cases() >> c & 1, isCase[c] ? 1 : 0);
            due("a case by weight(" + c + ")", x.weight(c) > 0 ? 1 : 0, isCase[c] ? 1 : 0);
        }
        says(4, "The CASES, as a set (of a long).");
        due(x, "cases()", 0b10101111);
        due(Due.townOf("wt9t9"), "cases()", 15);
        due(Due.townOf("wt9t9t9t9t9"), "cases()", 0xFFFFFFFFL);
        due(Due.townOf("wt9t9t9t9t9t9"), "cases()", -1L);
        due(Due.townOf("wt9t9t9t9t9t9;50"), "cases()", 0xAAAAAAAAFFFFFFFFL);
        due(new UnsaidCalls(), "cases()", 0);
        says(8, "Sets are told as bits (bit k for number k).");
        UnsaidCalls six = Due.townOf("wt1t1t1t1t1t1");
        for (int t = 0; t < 6; t++) {
            ready(six, "list(0, " + (1 << t) + ")");
            due(six, "called(0, 0)", 1 << t);
        }
    }

    private static void weights() {
        says(5, "its WEIGHT: of all THINGS multiplied: the digit, if it is the case, 10 less it, if it is not.");
        UnsaidCalls x = Due.townOf(TOWN);
        int[] weights = {48, 12, 432, 108, UNKNOWN, 8, UNKNOWN, 72};
        for (int c = 0; c < weights.length; c++) {
            due(x, "weight(" + c + ")", weights[c]);
        }
        says(5, "WEIGHT of a CASE.");
        due(Due.townOf("wt9t9"), "weight(0)", 1);
        due(Due.townOf("wt1t1"), "weight(3)", 1);
        due(Due.townOf("wt9t9t9t9t9t9"), "weight(63)", 531441);
        due(Due.townOf("wt1t1t1t1t1t1"), "weight(0)", 531441);
    }

    private static void lists() {
        UnsaidCalls x = Due.townOf("wt5d5l5t5t5t5");
        says(6, "HOURS 0 .. 5, each with a LIST (a set of THINGS)");
        due(x, "list(-1, 0)", UNKNOWN);
        for (int hour = 0; hour < 6; hour++) {
            due(x, "list(" + hour + ", " + (hour + 1) + ")", 0);
        }
        due(x, "list(6, 0)", UNKNOWN);
        says(6, "The LIST of an HOUR becomes a set: what it was.");
        for (int hour = 0; hour < 6; hour++) {
            due(x, "list(" + hour + ", 63)", hour + 1);
        }
        due(x, "list(5, 0)", 63);
        due(x, "list(5, 0)", 0);
        due(x, "list(5, 64)", OUTSIDE);
        due(x, "list(4, 1)", 63);
    }

    private static void breaths() {
        UnsaidCalls x = Due.townOf("wt5d5l5");
        says(7, "and a BREATH (0 .. 18).");
        due(x, "breath(0, -1)", OUTSIDE);
        due(x, "breath(0, 0)", 9);
        due(x, "breath(0, 18)", 0);
        due(x, "breath(0, 19)", OUTSIDE);
        due(x, "breath(0, 9)", 18);
        says(7, "The BREATH of an HOUR becomes b: what it was.");
        for (int hour = 0; hour < 6; hour++) {
            due(x, "breath(" + hour + ", " + (18 - hour) + ")", 9);
        }
        for (int hour = 0; hour < 6; hour++) {
            due(x, "breath(" + hour + ", " + (18 - hour) + ")", 18 - hour);
        }
    }

    private static void howMany() {
        says(33, "How many: 0 THINGS, 1 CASES, 2 HOURS that were HEARD, 3 READINGS");
        UnsaidCalls x = Due.townOf(TOWN);
        ready(x, "hear(1, 0)", "hear(5, 7)", "reading(0, 0, 0)");
        int[] many = {3, 6, 2, 1};
        for (int what = 0; what < 4; what++) {
            due(x, "many(" + what + ")", many[what]);
        }
        says(33, "(0 all without a TOWN)");
        UnsaidCalls none = new UnsaidCalls();
        ready(none, "hear(0, 0)", "reading(0, 0, 0)");
        for (int what = 0; what < 4; what++) {
            due(none, "many(" + what + ")", 0);
        }
    }
}
