import java.io.IOException;
import java.nio.file.Files;
import java.nio.file.Path;
import java.util.ArrayList;
import java.util.List;

/** The example of README.md: each of its calls stands there with the answer that it really gives. */
public final class ReadmeTest {
    private static final List<String> ROWS = new ArrayList<>();
    private static int row = 0;

    public static void main(String[] args) throws IOException {
        readExample();
        GroupFilters router = new GroupFilters(2);
        row("new GroupFilters(2);", "two links");
        row("settings(0, 2, 10, 3);", router.settings(0, 2, 10, 3));
        row("member(0, 0, 1, true, 6);", router.member(0, 0, 1, true, 6));
        row("passed(1, 1, 0);", router.passed(1, 1, 0));
        row("passed(1, 1, 2);", router.passed(1, 1, 2));
        row("report(0, 1, GroupFilters.BLOCK, 1);", router.report(0, 1, GroupFilters.BLOCK, 1));
        row("asked(0, 2);", router.asked(0, 2));
        row("query(0, 300, GroupFilters.NONE, 0, false);", router.query(0, 300, GroupFilters.NONE, 0, false));
        row("tick(40);", router.tick(40));
        row("told(0, 2);", router.told(0, 2));
        Check.due("rows of the example", ROWS.size(), row);
        Check.end();
    }

    private static void readExample() throws IOException {
        boolean inside = false;
        for (String line : Files.readAllLines(Path.of("README.md"))) {
            if (line.startsWith("```")) {
                inside = line.equals("```java");
            } else if (inside) {
                ROWS.add(line);
            }
        }
    }

    private static void row(String call, Object answer) {
        String text = row < ROWS.size() ? ROWS.get(row) : "";
        row++;
        boolean asIs = text.matches(".*\\Q" + call + "\\E +// \\Q" + answer + "\\E\\b.*");
        Check.due("row " + row + " is " + call + " with " + answer + ": " + text, asIs, true);
    }
}
