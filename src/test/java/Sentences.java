/** A test by sentences of the document: each begins with the promise and the words that it stands for. */
abstract class Sentences {
    /** The document's numbers, written once more, so that a test would notice a wrong constant. */
    static final int UNKNOWN = -1, OUTSIDE = -2, STATE = -3, FULL = -4, NONE = -9;
    static final int NULL = -11, CAST = -12, INDEX = -13, SIZE = -14;
    static final long LOST = Long.MIN_VALUE;
    /**
     * THING 0: 2 of 10, THING 1 (DREADED): 9 of 10, THING 2 (LONG): 4 of 10; if 2 is the case, 0 is, too.
     * CASES 0, 1, 2, 3, 5, 7 with WEIGHTS 48, 12, 432, 108, 8, 72 (680 in all); words 1, 3, 2; THING 1 is named first.
     */
    static final String TOWN = "wt2d9l4;20";

    abstract void all();

    final void run() {
        all();
        Due.end();
    }

    static void says(int promise, String words) {
        Due.says(promise, words);
    }

    static void due(UnsaidCalls x, String call, long want) {
        Due.due(x, call, want);
    }

    static void due(String what, long got, long want) {
        Due.due(what, got, want);
    }

    /** Calls that only make things ready. */
    static void ready(UnsaidCalls x, String... calls) {
        for (String call : calls) {
            Due.ask(x, call);
        }
    }

    /** A call and the FAULT behind it; another FAULT is brought about ahead of it, so that this one is seen to come from it. */
    static void dueWithFault(UnsaidCalls x, String call, long want, int fault) {
        x.sheet(fault == 4 ? -1 : 0, 0, -1);
        due(x, call, want);
        due("fault behind " + call, x.fault(), fault);
    }
}
