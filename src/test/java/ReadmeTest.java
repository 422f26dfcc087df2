import java.io.IOException;
import java.lang.reflect.Method;
import java.lang.reflect.Modifier;
import java.net.URL;
import java.net.URLClassLoader;
import java.nio.file.DirectoryStream;
import java.nio.file.Files;
import java.nio.file.Path;
import java.util.ArrayList;
import java.util.Arrays;
import java.util.LinkedHashMap;
import java.util.List;
import java.util.Map;
import java.util.TreeMap;
import java.util.TreeSet;
import java.util.regex.Matcher;
import java.util.regex.Pattern;
import javax.tools.ToolProvider;

/**
 * What README.md shows of calls and answers is so: its examples, joined to one program, are compiled and run;
 * its tables of calls and refusals are held against the class, its table of tests against the directory.
 */
public final class ReadmeTest {
    private static final Path README = Path.of("README.md"), TESTS = Path.of("src/test/java");
    private static final Pattern SHOWN = Pattern.compile("(relay\\.(\\w+)\\(.*\\));\\s*// (-?\\d+)(: .+)?");
    private static final Pattern CALL = Pattern.compile("`(\\w+)\\(([\\w, ]*)\\)`");
    private static final int[] NUMBERS = {Integer.MIN_VALUE, -1, 0, 1, 2, 3, 60, 61, Integer.MAX_VALUE};

    private final Check check = new Check();
    private final List<String> lines;

    private ReadmeTest(List<String> lines) {
        this.lines = lines;
    }

    public static void main(String[] args) throws Exception {
        ReadmeTest test = new ReadmeTest(Files.readAllLines(README));
        test.examplesAreSo();
        test.callsAreThoseOfTheFace();
        test.refusalsAreThoseThatAreTold();
        test.testsAreThoseThatRun();
        test.check.end();
    }

    // ---- the examples

    private void examplesAreSo() throws Exception {
        StringBuilder body = new StringBuilder();
        List<String> calls = new ArrayList<>();
        List<Long> due = new ArrayList<>();
        TreeSet<String> shown = new TreeSet<>(List.of("type"));
        for (String line : exampleLines()) {
            Matcher told = SHOWN.matcher(line);
            if (told.matches()) {
                body.append("told.add((long) ").append(told.group(1)).append(");\n");
                calls.add(told.group(1));
                shown.add(told.group(2));
                due.add(Long.parseLong(told.group(3)));
            } else {
                check.holds("an example tells its answer: " + line, !line.startsWith("relay."));
                body.append(line).append('\n');
            }
        }
        List<Long> answers = answersOf(body.toString());
        check.due("answers of the examples", answers.size(), due.size());
        for (int i = 0; i < answers.size(); i++) check.due(calls.get(i), answers.get(i), due.get(i));
        for (Method method : face()) check.holds("an example shows " + method.getName(), shown.contains(method.getName()));
    }

    private List<String> exampleLines() {
        List<String> found = new ArrayList<>();
        boolean isInside = false;
        for (String line : lines) {
            if (line.startsWith("```")) isInside = line.equals("```java");
            else if (isInside) found.add(line);
        }
        return found;
    }

    private List<Long> answersOf(String body) throws Exception {
        Path directory = Files.createTempDirectory("readme");
        try {
            Path file = directory.resolve("Shown.java");
            Files.writeString(file, "public class Shown { public static java.util.List<Long> told() {\n"
                + "java.util.List<Long> told = new java.util.ArrayList<>();\n" + body + "return told;\n} }\n");
            int failed = ToolProvider.getSystemJavaCompiler().run(null, null, null, "-cp",
                System.getProperty("java.class.path"), "-d", directory.toString(), file.toString());
            check.due("the examples compile", failed, 0);
            return failed == 0 ? loadedAnswers(directory) : List.of();
        } finally {
            remove(directory);
        }
    }

    private static List<Long> loadedAnswers(Path directory) throws Exception {
        List<Long> answers = new ArrayList<>();
        try (URLClassLoader loader = new URLClassLoader(new URL[] {directory.toUri().toURL()})) {
            for (Object one : (List<?>) loader.loadClass("Shown").getMethod("told").invoke(null)) answers.add((Long) one);
        }
        return answers;
    }

    private static void remove(Path directory) throws IOException {
        try (DirectoryStream<Path> files = Files.newDirectoryStream(directory)) {
            for (Path file : files) Files.delete(file);
        }
        Files.delete(directory);
    }

    // ---- the tables

    /** The rows of the table whose first column is so headed, cell by cell. */
    private List<String[]> table(String heading) {
        List<String[]> rows = new ArrayList<>();
        boolean isInside = false;
        for (String line : lines) {
            if (!line.startsWith("| ") && !line.startsWith("|--")) isInside = false;
            if (isInside && line.startsWith("| ")) {
                String[] cells = line.substring(1).split("\\|");
                for (int i = 0; i < cells.length; i++) cells[i] = cells[i].strip();
                rows.add(cells);
            }
            if (line.startsWith("| " + heading + " |")) isInside = true;
        }
        check.holds("there is a table of " + heading, !rows.isEmpty());
        return rows;
    }

    private static List<Method> face() {
        List<Method> face = new ArrayList<>();
        for (Method method : StickRelay.class.getDeclaredMethods()) {
            if (Modifier.isPublic(method.getModifiers())) face.add(method);
        }
        return face;
    }

    private void callsAreThoseOfTheFace() {
        Map<String, Integer> listed = new TreeMap<>();
        for (String[] row : table("call")) {
            Matcher call = CALL.matcher(row[0]);
            check.holds("a call: " + row[0], call.matches());
            if (call.matches()) listed.put(call.group(1), call.group(2).isEmpty() ? 0 : call.group(2).split(", ").length);
        }
        Map<String, Integer> due = new TreeMap<>();
        for (Method method : face()) due.put(method.getName(), method.getParameterCount());
        check.holds("the calls listed are " + due, listed.equals(due));
    }

    /** By each call with many numbers, on objects of many kinds, all refusals come that are listed, and no others. */
    private void refusalsAreThoseThatAreTold() throws Exception {
        Map<Long, String> names = new LinkedHashMap<>();
        for (String[] row : table("refusal")) names.put(Long.parseLong(row[1]), row[0]);
        Map<String, TreeSet<String>> told = new TreeMap<>();
        for (Method method : face()) told.put(method.getName(), refusalsOf(method, names));
        for (String[] row : table("call")) {
            String name = row[0].substring(1, row[0].indexOf('('));
            TreeSet<String> listed = new TreeSet<>(Arrays.asList(row[1].split(", ")));
            listed.remove("");
            check.holds("refusals of " + name + " are " + told.get(name) + ", not " + listed, listed.equals(told.get(name)));
        }
    }

    private TreeSet<String> refusalsOf(Method method, Map<Long, String> names) throws Exception {
        TreeSet<String> found = new TreeSet<>();
        int many = 1;
        for (int i = 0; i < method.getParameterCount(); i++) many *= NUMBERS.length;
        for (int kind = 0; kind < 4; kind++) {
            StickRelay relay = ofKind(kind);
            for (int code = 0; code < many; code++) {
                if (method.getName().equals("wipe") || code % 100 == 99) relay = ofKind(kind);
                Object[] numbers = new Object[method.getParameterCount()];
                for (int i = 0, rest = code; i < numbers.length; i++, rest /= NUMBERS.length) numbers[i] = NUMBERS[rest % NUMBERS.length];
                relay.sheet(0, 0, -1);
                long answer = plain(method.getName(), ((Number) method.invoke(relay, numbers)).longValue(), relay);
                if (answer < -1) found.add(names.getOrDefault(answer, "" + answer));
            }
        }
        return found;
    }

    /** Nobody and nothing; four with sheets; a text that is full; four with sheets, of which one runs who is not there. */
    private static StickRelay ofKind(int kind) {
        StickRelay relay = new StickRelay();
        if (kind == 2) Relays.type(relay, "1".repeat(40));
        if (kind == 1 || kind == 3) {
            Relays.type(relay, Relays.times(4, Relays.RISING));
            for (int s = 0; s < 3; s++) relay.sheet(s, s, 3);
        }
        if (kind == 3) relay.runs(2, 4);
        return relay;
    }

    /** The number by which most calls would tell a refusal; the latest FINDING ahead of the call was SIZE. */
    private static long plain(String name, long answer, StickRelay relay) {
        switch (name) {
            case "slip": return answer <= -1000 ? answer + 1000 : 0;
            case "all": return answer < -1 ? Long.MIN_VALUE - answer : answer;
            case "get":
                if (answer != Integer.MIN_VALUE) return 0;
                return relay.count(8) == 5 ? -2 : -10 - relay.count(8);
            case "digest": return 0;
            default: return answer;
        }
    }

    private void testsAreThoseThatRun() throws IOException {
        TreeSet<String> listed = new TreeSet<>();
        for (String[] row : table("test")) listed.add(row[0].replace("`", ""));
        TreeSet<String> due = new TreeSet<>();
        try (DirectoryStream<Path> files = Files.newDirectoryStream(TESTS, "*Test.java")) {
            for (Path file : files) due.add(file.getFileName().toString().replace(".java", ""));
        }
        check.holds("the tests listed are " + due, listed.equals(due));
        check.holds(".ci/run is the one command", lines.contains("    .ci/run") && Files.isExecutable(Path.of(".ci/run")));
    }
}
