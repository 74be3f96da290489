import java.lang.reflect.InvocationTargetException;
import java.lang.reflect.Method;
import java.util.Arrays;
import java.util.HashMap;
import java.util.Map;

/** What the project's tests share: counting wrong answers, asking a call by its text, and objects with a TOWN. */
final class Due {
    private static final Map<String, Method> FACE = new HashMap<>();

    private static int wrong = 0;
    private static int asked = 0;
    private static int askedAhead = -1;
    private static String sentence = "";

    private Due() {
    }

    /** Begins the test of a sentence: words of that promise's line, or else of what the document says of all. */
    static void says(int promise, String words) {
        endSentence();
        sentence = "promise " + promise + ", \"" + words + "\": ";
        askedAhead = asked;
        if (!Document.says(promise, words)) {
            tellWrong("the document does not say so");
        }
    }

    static void endSentence() {
        if (asked == askedAhead) {
            tellWrong("nothing was asked");
        }
        askedAhead = -1;
        sentence = "";
    }

    static void tellWrong(String how) {
        wrong++;
        System.out.println(sentence + how);
    }

    static void due(String call, long got, long want) {
        asked++;
        if (got != want) {
            tellWrong(call + " answered " + got + ", due is " + want);
        }
    }

    /** Asks a call by its text (MIN and MAX stand for the ends of the ints) and holds its answer against the one due. */
    static void due(UnsaidCalls x, String call, long want) {
        due(call, ask(x, call), want);
    }

    static long ask(UnsaidCalls x, String call) {
        int open = call.indexOf('(');
        String[] words = call.substring(open + 1, call.length() - 1).split(", ");
        Object[] numbers = Arrays.stream(words).filter(w -> !w.isEmpty()).map(Due::number).toArray();
        try {
            return ((Number) method(call.substring(0, open)).invoke(x, numbers)).longValue();
        } catch (InvocationTargetException e) {
            tellWrong(call + " threw " + e.getCause());
            return Long.MAX_VALUE;
        } catch (ReflectiveOperationException e) {
            throw new IllegalStateException(call, e);
        }
    }

    private static int number(String word) {
        return word.equals("MIN") ? Integer.MIN_VALUE : word.equals("MAX") ? Integer.MAX_VALUE : Integer.parseInt(word);
    }

    private static Method method(String name) {
        if (FACE.isEmpty()) {
            for (Method m : UnsaidCalls.class.getMethods()) {
                FACE.put(m.getName(), m);
            }
        }
        return FACE.get(name);
    }

    /** Ends the test: with exit code 1, if an answer was not the one that is due. */
    static void end() {
        endSentence();
        System.out.println(asked + " answers, " + wrong + " of them not as due");
        if (asked == 0 || wrong != 0) {
            System.exit(1);
        }
    }

    /** Writes a TEXT into a new row of ints of SHEET 3, and takes it. */
    static int takeText(UnsaidCalls x, String text) {
        write(x, 3, 2, text);
        return x.town(3, 2, 0, text.length());
    }

    static void write(UnsaidCalls x, int sheet, int lane, String text) {
        x.sheet(sheet, lane, text.length());
        for (int i = 0; i < text.length(); i++) {
            x.put(sheet, i, text.charAt(i));
        }
    }

    static UnsaidCalls townOf(String text) {
        UnsaidCalls x = new UnsaidCalls();
        int things = takeText(x, text);
        if (things < 2) {
            due("town of " + text, things, 2);
        }
        return x;
    }
}
