import java.util.List;

/** Each sentence of the document's Terms and promises has a test that names it. */
public final class DocTest {
    private static final List<Sentences> TESTS = List.of(new TownTest(), new CallsTest(), new PartsTest(), new SecretsTest(),
        new RulesTest(), new SheetsTest(), new RefusalsTest());

    public static void main(String[] args) {
        for (Sentences test : TESTS) {
            test.all();
        }
        Due.endSentence();
        for (String words : Document.unquoted()) {
            Due.tellWrong("no test names the sentence: " + words);
        }
        Due.end();
    }
}
