import java.nio.file.Files;
import java.nio.file.Path;
import java.util.ArrayList;
import java.util.List;
import java.util.regex.Matcher;
import java.util.regex.Pattern;

/** The source keeps to those rules of ../shared/LANGUAGE.md that its words alone can tell of. */
public final class LanguageTest {
    private static final Path SOURCE = Path.of("src/main/java/StickRelay.java");
    // No machine exception may be answered by catching it, so nothing is thrown or caught at all.
    private static final String[] NEVER = {
        "throw", "throws", "try", "catch", "finally", "synchronized", "assert", "package", "protected", "volatile",
        "Exception", "Error", "Object", "hashCode", "toString", "Random", "Thread", "nanoTime", "currentTimeMillis",
        "long\\s*\\.\\.\\.", "int\\s*\\.\\.\\.", "->", "::", "\\.equals", "Exact\\s*\\(", "while\\s*\\(true", "for\\s*\\(;",
    };
    private static final int MOST_CLASSES = 12, MOST_LINES = 60;

    public static void main(String[] args) throws Exception {
        Check check = new Check();
        String code = withoutComments(Files.readString(SOURCE));
        for (String word : NEVER) {
            String whole = Character.isLetter(word.charAt(0)) ? "\\b" + word : word;
            String end = word.matches("\\w+") ? "\\b" : "";
            check.holds("6, 7, 13: without " + word, !Pattern.compile(whole + end).matcher(code).find());
        }
        check.due("5, 12: a row is made beside its field alone", rowsMadeInMethods(code), 0);
        check.holds("4: no library but Arrays", imports(code).equals(List.of("java.util.Arrays")));
        check.holds("11: classes", occurrences(code, "\\bclass \\w+") <= MOST_CLASSES);
        check.holds("11: lines of a method", longestMethod(code) <= MOST_LINES);
        check.end();
    }

    private static String withoutComments(String source) {
        return source.replaceAll("(?s)/\\*.*?\\*/", "").replaceAll("//[^\n]*", "");
    }

    private static int occurrences(String code, String pattern) {
        Matcher matcher = Pattern.compile(pattern).matcher(code);
        int found = 0;
        while (matcher.find()) found++;
        return found;
    }

    private static List<String> imports(String code) {
        Matcher matcher = Pattern.compile("import ([\\w.]+);").matcher(code);
        List<String> found = new ArrayList<>();
        while (matcher.find()) found.add(matcher.group(1));
        return found;
    }

    /** Fields begin with final; the face's constructor makes the parts. */
    private static int rowsMadeInMethods(String code) {
        int found = 0;
        for (String line : code.split("\n")) {
            if (!line.contains("new ")) continue;
            boolean isField = line.strip().startsWith("final ");
            boolean isPart = line.strip().matches("\\w+ = new [A-Z]\\w+\\([\\w, ]*\\);");
            if (!isField && !isPart) found++;
        }
        return found;
    }

    /** By lines that open a method at the face's depth or a nested class's, to the brace that closes it. */
    private static int longestMethod(String code) {
        int longest = 0;
        int length = 0;
        String closing = null;
        for (String line : code.split("\n")) {
            String indent = line.substring(0, line.length() - line.stripLeading().length());
            boolean opens = line.endsWith(") {") && (indent.length() == 4 || indent.length() == 8);
            if (closing == null && opens) {
                closing = indent + "}";
                length = 0;
            }
            if (closing == null) continue;
            length++;
            if (!line.equals(closing)) continue;
            longest = Math.max(longest, length);
            closing = null;
        }
        return longest;
    }
}
