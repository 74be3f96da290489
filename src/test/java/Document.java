import java.io.IOException;
import java.nio.file.Files;
import java.nio.file.Path;
import java.util.ArrayList;
import java.util.List;
import java.util.regex.Matcher;
import java.util.regex.Pattern;

/** The text of ../shared/DOC.md: what its Terms and the lines of its promises say, and which words of it were quoted. */
final class Document {
    private static final Path PLACE = Path.of("../shared/DOC.md");
    private static final int PROMISES = 33;
    /** What names a call or a part, but says nothing of an answer: the face is held by FaceTest. */
    private static final Pattern NO_SENTENCE = Pattern.compile("(?m)^```.*$|^`[^`]*`|^==== \\d|^Ahead of the calls.*$|^#.*$");

    private static String text;
    private static boolean[] quoted;

    private Document() {
    }

    private static void read() {
        if (text != null) {
            return;
        }
        try {
            text = Files.readString(PLACE);
        } catch (IOException e) {
            throw new IllegalStateException("no document at " + PLACE.toAbsolutePath(), e);
        }
        quoted = new boolean[text.length()];
        Matcher m = NO_SENTENCE.matcher(text);
        while (m.find()) {
            mark(m.start(), m.end());
        }
    }

    private static void mark(int from, int to) {
        for (int p = from; p < to; p++) {
            quoted[p] = true;
        }
    }

    /** Whether these words stand in that promise's line or, if not there, in what is said of all; they count as quoted then. */
    static boolean says(int promise, String words) {
        read();
        return quotes(part("## Promise " + promise + ":"), words) || quotes(part("## Terms"), words)
            || quotes(part("## What it is"), words);
    }

    /** Where a part begins and ends, from its heading to the next one. */
    private static int[] part(String heading) {
        int from = text.indexOf("\n" + heading);
        int to = from < 0 ? -1 : text.indexOf("\n## ", from + 1);
        return new int[] {from, from >= 0 && to < 0 ? text.length() : to};
    }

    private static boolean quotes(int[] part, String words) {
        int at = part[0] < 0 ? -1 : text.indexOf(words, part[0]);
        if (at < 0 || at + words.length() > part[1]) {
            return false;
        }
        mark(at, at + words.length());
        return true;
    }

    /** All words of the Terms and of the promises that no test has quoted. */
    static List<String> unquoted() {
        read();
        List<String> all = new ArrayList<>();
        gather(all, part("## Terms"));
        for (int promise = 1; promise <= PROMISES; promise++) {
            gather(all, part("## Promise " + promise + ":"));
        }
        return all;
    }

    private static void gather(List<String> all, int[] part) {
        if (part[0] < 0) {
            all.add("a part that is not there");
            return;
        }
        StringBuilder piece = new StringBuilder();
        for (int p = part[0]; p <= part[1]; p++) {
            if (p < part[1] && !quoted[p]) {
                piece.append(text.charAt(p));
            } else {
                if (piece.chars().anyMatch(Character::isLetterOrDigit)) {
                    all.add(piece.toString().trim());
                }
                piece.setLength(0);
            }
        }
    }
}
