import java.io.IOException;
import java.nio.file.Files;
import java.nio.file.Path;
import java.util.List;
import java.util.regex.Matcher;
import java.util.regex.Pattern;

/** What of LANGUAGE.md can be seen from the words of the source; FaceTest looks at the compiled class. */
final class LanguageTest {
    private static final int MOST_CLASSES = 12, MOST_LINES_OF_A_METHOD = 60, MOST_PARAMETERS = 7;
    private static final Pattern HEAD = Pattern.compile("( +)(?:[\\w\\[\\]]+ )+\\w+\\(([^()]*)\\) \\{|( +)\\w+\\(([^()]*)\\) \\{");
    private static final Pattern LIBRARY = Pattern.compile("\\b(Math|Arrays|System|Integer|Long|List|String)\\.(\\w+)");
    private static final List<String> LIBRARY_USED = List.of("Math.abs", "Math.max", "Math.min", "Arrays.fill");

    private static final Due DUE = new Due("LanguageTest");

    public static void main(String[] args) throws IOException {
        String source = withoutComments(Files.readString(Path.of("src/main/java/BroadSheet.java")));
        forbiddenWords(source);
        libraryIsTheRules(source);
        classesAreFew(source);
        methodsAreShort(source.split("\n"));
        DUE.end();
    }

    private static String withoutComments(String source) {
        return source.replaceAll("(?s)/\\*.*?\\*/", "").replaceAll("//[^\n]*", "");
    }

    private static void forbiddenWords(String source) {
        none(source, "1", "\\b(package|protected)\\b");
        none(source, "2", "->|::");
        none(source, "3", "\\b(Object|Map|HashMap|Set|HashSet|Double)\\b|\\]\\[\\]\\[");
        none(source, "4", "\\w+Exact\\(");
        none(source, "5", "\\bstatic \\{|\\bstatic (?!final\\b|int |boolean )");
        // The document names no exception, so none is thrown or caught.
        none(source, "6", "\\b(try|catch|finally|throw|throws|synchronized|assert|hashCode|toString|equals)\\b");
        none(source, "9", "while \\(true\\)|for \\([^;]*; *;");
        none(source, "13", "\\b(Thread|Random|random|Files|File|nanoTime|currentTimeMillis|getenv)\\b");
    }

    private static void none(String source, String rule, String words) {
        Matcher found = Pattern.compile(words).matcher(source);
        boolean any = found.find();
        DUE.holds("rule " + rule + ": the source has '" + (any ? found.group() : "") + "'", !any);
    }

    private static void libraryIsTheRules(String source) {
        DUE.holds("rule 4: java.util.Arrays is all that is brought in",
            source.lines().filter(line -> line.startsWith("import ")).toList().equals(List.of("import java.util.Arrays;")));
        Matcher used = LIBRARY.matcher(source.replaceFirst("import java.util.Arrays;", ""));
        while (used.find()) {
            DUE.holds("rule 4: " + used.group() + " is new here; see whether the rule has it, then add it to this test",
                LIBRARY_USED.contains(used.group()));
        }
    }

    private static void classesAreFew(String source) {
        long classes = Pattern.compile("\\b(class|record|enum|interface) \\w+").matcher(source).results().count();
        DUE.holds("rule 11: " + classes + " classes", classes <= MOST_CLASSES);
    }

    private static void methodsAreShort(String[] lines) {
        int methods = 0;
        for (int n = 0; n < lines.length; n++) {
            Matcher head = HEAD.matcher(lines[n]);
            if (head.matches()) {
                methods++;
                String indent = head.group(1) != null ? head.group(1) : head.group(3);
                String parameters = head.group(1) != null ? head.group(2) : head.group(4);
                DUE.holds("rule 11: too many parameters: " + lines[n], parameters.split(",").length <= MOST_PARAMETERS);
                int end = n;
                while (end < lines.length && !lines[end].equals(indent + "}")) {
                    end++;
                }
                DUE.holds("rule 11: too long: " + lines[n], end - n < MOST_LINES_OF_A_METHOD);
            }
        }
        DUE.holds("only " + methods + " methods were found", methods >= 25);
    }
}
