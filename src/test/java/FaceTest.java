import java.io.IOException;
import java.lang.management.ManagementFactory;
import java.lang.reflect.Array;
import java.lang.reflect.Constructor;
import java.lang.reflect.Field;
import java.lang.reflect.Method;
import java.lang.reflect.Modifier;
import java.nio.file.Files;
import java.nio.file.Path;
import java.util.ArrayList;
import java.util.Collections;
import java.util.HashMap;
import java.util.HashSet;
import java.util.List;
import java.util.Map;
import java.util.Set;
import java.util.regex.Matcher;
import java.util.regex.Pattern;

/** The public face, and the rules of LANGUAGE.md that reflection, the source or a count can show. */
public final class FaceTest {
    private static final String[] FACE = {
        "int town(int,int,int,int)", "int ofThing(int,int)", "long cases()", "int weight(int)", "int list(int,int)",
        "int breath(int,int)", "int called(int,int)", "int hear(int,int)", "long thought()", "int sure(int)",
        "long chance(int,int)", "int parts(int)", "int best(int,int)", "long words(int,int)",
        "int secret(int,int,int,int)", "int shortest(int,int)", "int two(int,int,int)", "int reading(int,int,int)",
        "int back(int)", "int rules(int,int)", "int night(int,int,int,int)", "int sheet(int,int,int)", "int lose(int)",
        "int put(int,int,int)", "long cell(int,int,int)", "int copy(int,int,int,int,int)", "int tell(int)",
        "int fear(int)", "int as(int,int)", "int trace()", "int fault()", "int many(int)"};
    private static final String[] CONSTANTS = {"UNKNOWN", "OUTSIDE", "STATE", "FULL", "NONE", "LOST"};
    private static final long[] VALUES = {-1, -2, -3, -4, -9, Long.MIN_VALUE};
    private static final String SOURCE = "src/main/java/UnsaidCalls.java";

    public static void main(String[] args) throws Exception {
        methods();
        constants();
        rest();
        nestedClasses();
        source();
        library();
        loops();
        depthOfCalls();
        room();
        nothingIsMade();
        Due.end();
    }

    private static void holds(String what, boolean so) {
        Due.due(what, so ? 1 : 0, 1);
    }

    private static String signature(Method m) {
        StringBuilder text = new StringBuilder(m.getReturnType() + " " + m.getName() + "(");
        for (Class<?> p : m.getParameterTypes()) {
            text.append(text.charAt(text.length() - 1) == '(' ? "" : ",").append(p);
        }
        return text.append(")").toString();
    }

    private static void methods() {
        List<String> wanted = new ArrayList<>(List.of(FACE));
        Set<String> names = new HashSet<>();
        for (Method m : UnsaidCalls.class.getDeclaredMethods()) {
            if (Modifier.isPublic(m.getModifiers())) {
                names.add(m.getName());
                holds("of the face: " + signature(m), wanted.remove(signature(m)) && !Modifier.isStatic(m.getModifiers()));
            }
        }
        Collections.sort(wanted);
        holds("missing: " + wanted, wanted.isEmpty());
        for (Class<?> c : allClasses()) {
            for (Method m : c.getDeclaredMethods()) {
                boolean face = c == UnsaidCalls.class && Modifier.isPublic(m.getModifiers());
                holds("rule 1: the name " + m.getName(), face || !names.contains(m.getName()));
                holds("rule 11: parameters of " + m.getName(), m.getParameterCount() <= 7);
            }
        }
    }

    private static void constants() throws Exception {
        for (int k = 0; k < CONSTANTS.length; k++) {
            Field f = UnsaidCalls.class.getDeclaredField(CONSTANTS[k]);
            int how = f.getModifiers();
            holds(CONSTANTS[k], Modifier.isPublic(how) && Modifier.isStatic(how) && Modifier.isFinal(how));
            Due.due(CONSTANTS[k], f.getLong(null), VALUES[k]);
            holds("type of " + CONSTANTS[k], f.getType() == (k == 5 ? long.class : int.class));
        }
    }

    private static void rest() {
        holds("public and final", Modifier.isPublic(UnsaidCalls.class.getModifiers())
            && Modifier.isFinal(UnsaidCalls.class.getModifiers()) && UnsaidCalls.class.getPackageName().isEmpty());
        Constructor<?>[] made = UnsaidCalls.class.getDeclaredConstructors();
        holds("one public constructor", made.length == 1 && Modifier.isPublic(made[0].getModifiers())
            && made[0].getParameterCount() == 0);
        List<String> known = List.of(CONSTANTS);
        for (Field f : UnsaidCalls.class.getDeclaredFields()) {
            holds("rule 1: field " + f.getName(), Modifier.isPrivate(f.getModifiers()) || known.contains(f.getName()));
        }
        for (Method m : UnsaidCalls.class.getDeclaredMethods()) {
            int how = m.getModifiers();
            holds("rule 1: method " + m.getName(), Modifier.isPublic(how) || Modifier.isPrivate(how));
        }
    }

    private static List<Class<?>> allClasses() {
        List<Class<?>> all = new ArrayList<>(List.of(UnsaidCalls.class.getDeclaredClasses()));
        all.add(UnsaidCalls.class);
        return all;
    }

    private static void nestedClasses() {
        holds("rule 11: classes", allClasses().size() <= 12);
        for (Class<?> c : allClasses()) {
            int how = c.getModifiers();
            holds("rule 2: " + c, c == UnsaidCalls.class || Modifier.isStatic(how) && !Modifier.isPublic(how));
            int fields = 0;
            for (Field f : c.getDeclaredFields()) {
                boolean constant = Modifier.isStatic(f.getModifiers());
                fields += constant ? 0 : 1;
                holds("rule 5: " + f, !constant || Modifier.isFinal(f.getModifiers()));
            }
            holds("rule 11: fields of " + c, fields <= 20);
        }
    }

    private static String code() throws IOException {
        return Files.readString(Path.of(SOURCE)).replaceAll("(?s)/\\*.*?\\*/", "").replaceAll("//[^\n]*", "");
    }

    private static void source() throws IOException {
        String text = Files.readString(Path.of(SOURCE));
        String code = code();
        String[] words = {"throw", "throws", "try", "catch", "synchronized", "assert", "import", "package", "instanceof",
            "equals", "hashCode", "toString", "Exact", "var", "record", "protected", "double", "float"};
        for (String word : words) {
            holds("rule 4, 6: " + word, !Pattern.compile("\\b" + word + "\\b").matcher(code).find());
        }
        for (String sign : new String[] {"->", "::", "\"", "System.out"}) {
            holds("rule 2, 4: " + sign, !code.contains(sign));
        }
        holds("signs 1 to 127", text.chars().allMatch(c -> c < 128));
        shortMethods(code.split("\n"));
        Matcher made = Pattern.compile("new (\\w+)").matcher(code);
        while (made.find()) {
            String before = code.substring(code.lastIndexOf('\n', made.start()) + 1, made.start());
            holds("made once, for a field: " + made.group(), before.matches("\\s+\\w+ = "));
        }
    }

    private static void library() throws IOException {
        Matcher call = Pattern.compile("\\b([A-Z]\\w*)\\.([a-z]\\w*)\\(").matcher(code());
        while (call.find()) {
            boolean numbers = call.group(1).matches("Integer|Long|Math") && !call.group(2).endsWith("Exact");
            boolean rows = call.group().matches("System\\.arraycopy\\(|Arrays\\.(copyOf|copyOfRange|fill)\\(");
            holds("rule 4: " + call.group(), numbers || rows);
        }
    }

    private static void loops() throws IOException {
        String code = code();
        holds("rule 9: a loop without a counter", !Pattern.compile("\\b(while|do)\\b").matcher(code).find());
        Matcher loop = Pattern.compile("\\bfor \\((.*)\\) \\{").matcher(code);
        int seen = 0;
        while (loop.find()) {
            seen++;
            holds("rule 9: " + loop.group(), loop.group(1).matches("int (\\w+) = \\w+; \\1 <=? [^;]+; \\1\\+\\+")
                || loop.group(1).matches("int (\\w+) = \\w+; [^;|]+ && \\1 <=? [^;|]+; \\1\\+\\+"));
        }
        holds("loops seen: " + seen, seen > 30);
    }

    /** By names alone, so a bit too strict: methods of one name in two classes count as one. */
    private static void depthOfCalls() throws IOException {
        Map<String, Set<String>> calls = new HashMap<>();
        Matcher m = Pattern.compile("(?m)^(    |        )(?:[\\w\\[\\]]+ )*(\\w+)\\([^;=\\n]*\\) \\{\\n((?s:.*?))^\\1\\}").matcher(code());
        while (m.find()) {
            if (!m.group(2).matches("if|for|switch")) {
                Set<String> called = calls.computeIfAbsent(m.group(2), k -> new HashSet<>());
                Matcher call = Pattern.compile("\\b(\\w+)\\(").matcher(m.group(3));
                while (call.find()) {
                    called.add(call.group(1));
                }
            }
        }
        holds("methods seen: " + calls.size(), calls.size() > 80);
        for (String name : calls.keySet()) {
            int depth = depthOf(calls, name, 0);
            holds("rules 8 and 11: depth " + depth + " of " + name, depth <= 8);
        }
    }

    private static int depthOf(Map<String, Set<String>> calls, String name, int open) {
        if (open > 20 || !calls.containsKey(name)) {
            return 0;
        }
        int deepest = 0;
        for (String called : calls.get(name)) {
            deepest = Math.max(deepest, depthOf(calls, called, open + 1));
        }
        return deepest + 1;
    }

    /** All calls of a run live in one room, so an object must be small: objects, fields and elements are counted. */
    private static void room() throws Exception {
        List<Object> open = new ArrayList<>(List.of(new UnsaidCalls()));
        int numbers = 0;
        for (int k = 0; k < open.size(); k++) {
            Object one = open.get(k);
            if (one.getClass().isArray()) {
                numbers += Array.getLength(one);
                continue;
            }
            for (Field f : one.getClass().getDeclaredFields()) {
                if (!Modifier.isStatic(f.getModifiers())) {
                    numbers++;
                    f.setAccessible(true);
                    Object held = f.getType().isPrimitive() ? null : f.get(one);
                    if (held != null && open.stream().noneMatch(o -> o == held)) {
                        open.add(held);
                    }
                }
            }
        }
        holds("objects and arrays of one: " + open.size(), open.size() <= 40);
        holds("fields and elements of one: " + numbers, numbers <= 2500);
    }

    /** A method begins with a line of 4 or 8 blanks that ends with an open brace, and ends where a like one closes it. */
    private static void shortMethods(String[] lines) {
        int seen = 0;
        for (int from = 0; from < lines.length; from++) {
            Matcher opening = Pattern.compile("^(    |        )\\w[^=;]*\\) \\{$").matcher(lines[from]);
            if (opening.matches() && !lines[from].trim().matches("(if|for|while|switch)\\b.*")) {
                int to = from + 1;
                while (to < lines.length && !lines[to].equals(opening.group(1) + "}")) {
                    to++;
                }
                seen++;
                holds("rule 11: length of " + lines[from].trim(), to - from <= 60);
            }
        }
        holds("methods seen: " + seen, seen > 80);
    }

    /** All calls of a run live in one room, so a call makes nothing: the dearest ones are asked 100 times each. */
    private static void nothingIsMade() {
        com.sun.management.ThreadMXBean threads = (com.sun.management.ThreadMXBean) ManagementFactory.getThreadMXBean();
        UnsaidCalls x = Due.townOf("wd5t1l7d9t5l5;01");
        dearestCalls(x);
        long before = threads.getCurrentThreadAllocatedBytes();
        for (int k = 0; k < 100; k++) {
            dearestCalls(x);
        }
        long made = threads.getCurrentThreadAllocatedBytes() - before;
        holds("bytes made by 100 times the dearest calls: " + made, made < 20_000);
    }

    private static void dearestCalls(UnsaidCalls x) {
        x.town(3, 2, 0, 16);
        x.list(0, 63);
        x.breath(0, 7);
        x.hear(0, 5);
        x.thought();
        x.sure(0);
        x.chance(0, 0);
        x.parts(6);
        x.best(5, 0);
        x.words(0, 0);
        x.secret(0, 1, 2, 0);
        x.shortest(3, 0);
        x.two(63, 5, 0);
        x.reading(0, 0, 1);
        x.rules(0, -1);
        x.night(3, 2, 0, 6);
        x.sheet(0, 0, 60);
        x.copy(3, 0, 3, 1, 0);
        x.tell(0);
    }
}
