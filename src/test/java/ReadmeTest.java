import java.io.IOException;
import java.net.URL;
import java.net.URLClassLoader;
import java.nio.file.Files;
import java.nio.file.Path;
import java.util.ArrayList;
import java.util.List;
import java.util.regex.Matcher;
import java.util.regex.Pattern;
import javax.tools.ToolProvider;

/** The example of README.md, compiled and run as it stands there: each call answers what is written behind it. */
public final class ReadmeTest {
    private static final Pattern BLOCK = Pattern.compile("(?s)```java\n(.*?)```");
    private static final Pattern CALL = Pattern.compile("(?m)^(x\\..*\\)); +// (-?\\d+)(?::.*)?$");

    private final List<String> calls = new ArrayList<>();
    private final List<Long> wanted = new ArrayList<>();

    public static void main(String[] args) throws Exception {
        new ReadmeTest().run();
        Due.end();
    }

    private void run() throws Exception {
        List<?> answers = answersOf(programOf(Files.readString(Path.of("README.md"))));
        Due.due("calls seen in README.md, above 30", calls.size() > 30 ? 1 : 0, 1);
        Due.due("answers of the example", answers.size(), calls.size());
        for (int k = 0; k < answers.size(); k++) {
            Due.due("README.md: " + calls.get(k), ((Number) answers.get(k)).longValue(), wanted.get(k));
        }
    }

    /** The example's lines as they are, but that answers of calls are kept. */
    private String programOf(String readme) {
        StringBuilder program = new StringBuilder("public final class Example {\n"
            + "public static java.util.List<Number> run() {\njava.util.List<Number> answers = new java.util.ArrayList<>();\n");
        Matcher block = BLOCK.matcher(readme);
        while (block.find()) {
            Matcher call = CALL.matcher(block.group(1));
            while (call.find()) {
                calls.add(call.group(1));
                wanted.add(Long.parseLong(call.group(2)));
                call.appendReplacement(program, "answers.add(" + Matcher.quoteReplacement(call.group(1)) + ");");
            }
            call.appendTail(program);
        }
        return program.append("return answers;\n}\n}\n").toString();
    }

    private static List<?> answersOf(String program) throws Exception {
        Path place = Files.createTempDirectory("readme");
        Path source = place.resolve("Example.java");
        try {
            Files.writeString(source, program);
            int failed = ToolProvider.getSystemJavaCompiler().run(null, System.out, System.out, "-d", place.toString(),
                "-cp", System.getProperty("java.class.path"), source.toString());
            Due.due("the example of README.md is compiled", failed, 0);
            return failed == 0 ? answersOf(place) : List.of();
        } finally {
            Files.deleteIfExists(source);
            Files.deleteIfExists(place.resolve("Example.class"));
            Files.deleteIfExists(place);
        }
    }

    private static List<?> answersOf(Path place) throws IOException, ReflectiveOperationException {
        try (URLClassLoader loader = new URLClassLoader(new URL[] {place.toUri().toURL()})) {
            return (List<?>) loader.loadClass("Example").getMethod("run").invoke(null);
        }
    }
}
