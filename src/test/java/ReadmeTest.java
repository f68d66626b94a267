import java.io.IOException;
import java.nio.file.Files;
import java.nio.file.Path;
import java.util.regex.Matcher;
import java.util.regex.Pattern;

/** README.md has a row for every promise's call, by its numbers' names, and its example answers what it says. */
public final class ReadmeTest {
    private ReadmeTest() {
    }

    public static void main(String[] args) throws IOException {
        String source = Files.readString(Path.of(args.length > 0 ? args[0] : "src/main/java/WallMarks.java"));
        String readme = Files.readString(Path.of(args.length > 1 ? args[1] : "README.md"));
        calls(source, readme);
        example(readme);
        Due.yes("the one command", readme.contains("\n.ci/run\n"));
        Due.end();
    }

    /** Promise 1 is the constructor; the calls follow in the order of the face. */
    private static void calls(String source, String readme) {
        Matcher call = Pattern.compile("(?m)^    public (?:int|long) (\\w+)\\(([^)]*)\\)").matcher(source);
        int promise = 1;
        while (call.find()) {
            promise++;
            String text = call.group(1) + "(" + call.group(2).replace("int ", "") + ")";
            Due.yes("row of " + text, readme.contains("\n| " + promise + " | `" + text + "` | "));
        }
        Due.is("promises", promise, 36);
    }

    /** Rows like "x.rank(1);  // 2: why"; a refusal is told by its word. */
    private static void example(String readme) {
        Matcher row = Pattern.compile("(?m)^x\\.(\\w+)\\(([^)]*)\\); +// (-?\\w+)").matcher(readme);
        WallMarks x = new WallMarks();
        int rows = 0;
        while (row.find()) {
            rows++;
            Rows.run(x, row.group(1) + " " + row.group(2).replace(",", "") + " = " + row.group(3));
        }
        Due.yes("rows", rows > 10 && rows == readme.split("\nx\\.", -1).length - 1);
    }
}
