import java.io.IOException;
import java.nio.charset.StandardCharsets;
import java.nio.file.Files;
import java.nio.file.Path;
import java.util.List;
import java.util.regex.Matcher;
import java.util.regex.Pattern;

/** Those rules of LANGUAGE.md that can be seen in the lines of the program. */
final class LanguageTests {
    private static final List<String> FORBIDDEN = List.of(
            "\\bimport\\b", "\\bpackage\\b", "->", "::", "\\bfinally\\b", "\\bcatch\\b", "\\btry\\b",
            "\\bassert\\b", "\\bsynchronized\\b", "\\bdouble\\b", "\\bfloat\\b", "\\bDouble\\b",
            "\\bString\\.", "\\bSystem\\b", "\\bThread\\b", "\\bequals\\b", "\\bhashCode\\b",
            "\\btoString\\b", "Exact\\(", "\\bMIN_VALUE\\b", "\\bMAX_VALUE\\b", "\\bprotected\\b",
            "\"\\s*\\+", "\\+\\s*\"");
    private static final Pattern LIBRARY = Pattern.compile("\\b(Math|Long|Integer|Arrays)\\.(\\w+)");
    private static final List<String> ALLOWED = List.of(
            "Math.max", "Math.min", "Math.abs", "Long.numberOfLeadingZeros", "Long.numberOfTrailingZeros");
    private static final Pattern HEAD = Pattern.compile("^(    |        )\\w[\\w\\[\\] ]*\\(.*");

    private LanguageTests() {
    }

    static void run(String path) {
        List<String> lines = linesOf(path);
        Check.test("rule 3: characters 1 to 127", () -> testSigns(lines));
        Check.test("rules 4, 6, 10: only what is listed", () -> testWords(lines));
        Check.test("rule 11: short methods, few classes", () -> testLengths(lines));
    }

    private static List<String> linesOf(String path) {
        try {
            return Files.readAllLines(Path.of(path), StandardCharsets.UTF_8);
        } catch (IOException thrown) {
            throw new IllegalStateException(thrown);
        }
    }

    private static void testSigns(List<String> lines) {
        for (String line : lines) {
            boolean isPlain = line.chars().allMatch(sign -> sign >= 32 && sign < 127);
            Check.due("plain signs in: " + line, true, () -> isPlain);
            Check.due("short line: " + line, true, () -> line.length() <= 120);
        }
    }

    private static boolean isComment(String line) {
        String bare = line.strip();
        return bare.startsWith("/*") || bare.startsWith("*") || bare.startsWith("//");
    }

    private static void testWords(List<String> lines) {
        for (String line : lines) {
            if (isComment(line)) {
                continue;
            }
            for (String word : FORBIDDEN) {
                Check.due(word + " in: " + line, false, () -> Pattern.compile(word).matcher(line).find());
            }
            Matcher matcher = LIBRARY.matcher(line);
            while (matcher.find()) {
                String call = matcher.group();
                Check.due(call + " is listed", true, () -> ALLOWED.contains(call));
            }
        }
    }

    private static void testLengths(List<String> lines) {
        int classes = 0;
        int head = -1;
        for (int i = 0; i < lines.size(); i++) {
            String line = lines.get(i);
            classes += line.matches(".*\\bclass \\w+ \\{") ? 1 : 0;
            if (HEAD.matcher(line).matches() && !line.endsWith(";")) {
                head = i;
            }
            if (head >= 0 && line.matches("^(    |        )\\}$")) {
                int length = i - head + 1;
                String told = lines.get(head);
                Check.due("at most 60 lines: " + told, true, () -> length <= 60);
                head = -1;
            }
        }
        int many = classes;
        Check.due("at most twelve classes", true, () -> many > 1 && many <= 12);
    }
}
