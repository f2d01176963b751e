import java.io.IOException;
import java.nio.charset.StandardCharsets;
import java.nio.file.Files;
import java.nio.file.Path;
import java.util.List;
import java.util.regex.Matcher;
import java.util.regex.Pattern;

/** Those rules of LANGUAGE.md that can be seen in the lines of the program. */
final class LanguageTests {
    private static final Pattern IMPORT = Pattern.compile(
            "import java\\.util\\.(ArrayList|Arrays|Iterator|List|NoSuchElementException);");
    private static final List<String> FORBIDDEN = List.of(
            "\\bpackage\\b", "::", "\\bfinally\\b", "\\bassert\\b", "\\bsynchronized\\b", "\\bprotected\\b",
            "\\bDouble\\b", "\\bFloat\\b", "\\bThread\\b", "\\bhashCode\\b", "\\bString\\.\\w",
            "\\bSystem\\.(?!arraycopy\\b)", "\\bgetMessage\\b", "Exact\\(", "\\bM(IN|AX)_VALUE\\b",
            "\"\\s*\\+", "\\+\\s*\"");
    private static final Pattern LAMBDA = Pattern.compile("->");
    private static final Pattern LIBRARY = Pattern.compile("\\b(Math|Long|Integer|Arrays)\\.(\\w+)");
    private static final Pattern LISTED = Pattern.compile(
            "Math\\.(max|min|abs|floorDiv|floorMod)"
            + "|(Long|Integer)\\.(compare|max|min|bitCount|numberOf(Leading|Trailing)Zeros|signum)"
            + "|Arrays\\.(copyOf|copyOfRange|fill)");
    private static final Pattern HEAD = Pattern.compile("^(    |        )\\w[\\w\\[\\] ]*\\(.*");

    private LanguageTests() {
    }

    static void run(String path) {
        List<String> lines = linesOf(path);
        Check.test("rules 3 and 4: signs of 1 to 127", () -> testSigns(lines));
        Check.test("rules 1, 2, 4, 6, 10: none of the words that are not listed", () -> testWords(lines));
        Check.test("rule 4: of the library only what is listed", () -> testLibrary(lines));
        Check.test("rule 11: short methods, few classes", () -> testLengths(lines));
    }

    private static List<String> linesOf(String path) {
        try {
            return Files.readAllLines(Path.of(path), StandardCharsets.UTF_8);
        } catch (IOException thrown) {
            throw new IllegalStateException(thrown);
        }
    }

    private static void testSigns(List<String> lines) {
        for (String line : lines) {
            boolean isPlain = line.chars().allMatch(sign -> sign >= 1 && sign <= 127);
            Check.due("plain signs in: " + line, true, () -> isPlain);
        }
    }

    private static boolean isComment(String line) {
        String bare = line.strip();
        return bare.startsWith("/*") || bare.startsWith("*") || bare.startsWith("//");
    }

    private static void testWords(List<String> lines) {
        for (String line : lines) {
            if (isComment(line)) {
                continue;
            }
            for (String word : FORBIDDEN) {
                Check.due(word + " in: " + line, false, () -> Pattern.compile(word).matcher(line).find());
            }
            boolean isSwitch = line.strip().startsWith("case ") || line.strip().startsWith("default ");
            Check.due("a lambda in: " + line, false, () -> !isSwitch && LAMBDA.matcher(line).find());
        }
    }

    private static void testLibrary(List<String> lines) {
        for (String line : lines) {
            if (isComment(line)) {
                continue;
            }
            boolean isImport = line.startsWith("import ");
            Check.due("listed: " + line, true, () -> !isImport || IMPORT.matcher(line.strip()).matches());
            Matcher matcher = LIBRARY.matcher(isImport ? "" : line);
            while (matcher.find()) {
                String call = matcher.group();
                Check.due(call + " is listed", true, () -> LISTED.matcher(call).matches());
            }
        }
    }

    private static void testLengths(List<String> lines) {
        int classes = 0;
        int head = -1;
        for (int i = 0; i < lines.size(); i++) {
            String line = lines.get(i);
            classes += line.matches(".*\\b(class|enum|interface|record) \\w+.*\\{") ? 1 : 0;
            if (HEAD.matcher(line).matches() && !line.endsWith(";")) {
                head = i;
            }
            if (head >= 0 && line.matches("^(    |        )\\}$")) {
                int length = i - head + 1;
                String told = lines.get(head);
                Check.due("at most 60 lines: " + told, true, () -> length <= 60);
                head = -1;
            }
        }
        int many = classes;
        Check.due("at most twelve classes", true, () -> many <= 12);
    }
}
