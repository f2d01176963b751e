import java.io.IOException;
import java.nio.charset.StandardCharsets;
import java.nio.file.Files;
import java.nio.file.Path;
import java.util.ArrayList;
import java.util.List;
import java.util.Set;
import java.util.TreeSet;
import java.util.regex.Matcher;
import java.util.regex.Pattern;

/**
 * The calls that README.md shows, one run on one object, with the answers that it tells. They are
 * read from README.md itself, so that what it tells can't become another thing than what holds.
 */
final class ReadmeTests {
    private static final String NEW_OBJECT = "Nearplaces places = new Nearplaces();";
    /** A call, and behind "//" its answer: a text in quotes, or what stands ahead of a remark. */
    private static final Pattern SHOWN = Pattern.compile(
            "places\\.((\\w+)\\([^()]*\\)); +// (\"[^\"]*\"|[^:]+)(: .+)?");

    private final Set<String> shownNames = new TreeSet<>();
    private Run run = null;

    private ReadmeTests() {
    }

    static void run(String path) {
        List<String> lines = linesOf(path);
        ReadmeTests readme = new ReadmeTests();
        String heading = "";
        for (int i = 0; i < lines.size(); i++) {
            heading = lines.get(i).startsWith("#") ? lines.get(i) : heading;
            if (lines.get(i).equals("```java")) {
                List<String> block = blockBehind(lines, i);
                i += block.size();
                Check.test("README.md, " + heading + ": answers as it tells", () -> readme.testBlock(block));
            }
        }
        Check.test("README.md shows each method", readme::testNames);
    }

    private static List<String> linesOf(String path) {
        try {
            return Files.readAllLines(Path.of(path), StandardCharsets.UTF_8);
        } catch (IOException thrown) {
            throw new IllegalStateException(thrown);
        }
    }

    private static List<String> blockBehind(List<String> lines, int opening) {
        List<String> block = new ArrayList<>();
        for (int i = opening + 1; i < lines.size() && !lines.get(i).equals("```"); i++) {
            block.add(lines.get(i));
        }
        return block;
    }

    private void testBlock(List<String> block) {
        for (String line : block) {
            if (line.equals(NEW_OBJECT)) {
                run = new Run();
            } else {
                testLine(line);
            }
        }
    }

    private void testLine(String line) {
        Matcher shown = SHOWN.matcher(line);
        if (run == null || !shown.matches()) {
            throw new IllegalStateException("no call and answer: " + line);
        }
        shownNames.add(shown.group(2));
        run.due(shown.group(1), bare(shown.group(3)));
    }

    private static String bare(String told) {
        if (told.startsWith("\"")) {
            return told.substring(1, told.length() - 1);
        }
        return told.replace("throws ", "throws.");
    }

    private void testNames() {
        Check.due("the methods shown", FaceTests.names(), () -> shownNames);
    }
}
