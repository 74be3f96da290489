/** What the project's tests share: counting wrong answers, and objects with a TOWN. */
final class Due {
    private static int wrong = 0;
    private static int asked = 0;

    private Due() {
    }

    static void due(String call, long got, long want) {
        asked++;
        if (got != want) {
            wrong++;
            System.out.println(call + " answered " + got + ", due is " + want);
        }
    }

    /** Ends the test: with exit code 1, if an answer was not the one that is due. */
    static void end() {
        System.out.println(asked + " answers, " + wrong + " of them not as due");
        if (asked == 0 || wrong != 0) {
            System.exit(1);
        }
    }

    /** Writes a TEXT into a new row of ints of SHEET 3, and takes it. */
    static int takeText(UnsaidCalls x, String text) {
        write(x, 3, 2, text);
        return x.town(3, 2, 0, text.length());
    }

    static void write(UnsaidCalls x, int sheet, int lane, String text) {
        x.sheet(sheet, lane, text.length());
        for (int i = 0; i < text.length(); i++) {
            x.put(sheet, i, text.charAt(i));
        }
    }

    static UnsaidCalls townOf(String text) {
        UnsaidCalls x = new UnsaidCalls();
        int things = takeText(x, text);
        if (things < 2) {
            due("town of " + text, things, 2);
        }
        return x;
    }
}
