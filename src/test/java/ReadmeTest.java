import java.io.IOException;
import java.nio.file.Files;
import java.nio.file.Path;
import java.util.List;
import java.util.TreeSet;
import java.util.regex.Matcher;
import java.util.regex.Pattern;
import java.util.stream.Stream;

/** What README.md says of calls and tests is so. */
public final class ReadmeTest {
    public static void main(String[] args) throws IOException {
        String page = Files.readString(Path.of("README.md"));
        example(page);
        calls(page, Document.read());
        tests(page);
        Due.end();
    }

    /** Each line of the example is a call, and behind "//" its answer, up to a ":" if there is one. */
    private static void example(String page) {
        int start = page.indexOf("```java\n");
        String[] lines = page.substring(start + 8, page.indexOf("```", start + 8)).split("\n");
        Due.text("the example's first line", lines[0], "Undogroups x = new Undogroups();");
        Pattern form = Pattern.compile("x\\.(\\w+\\([^)]*\\)); +// (?:\"([^\"]*)\"|([^:]*)).*");
        Undogroups x = new Undogroups();
        for (int i = 1; i < lines.length; i++) {
            Matcher line = form.matcher(lines[i]);
            Due.is("is a call and an answer: " + lines[i], line.matches(), true);
            if (line.matches()) {
                String due = line.group(2) != null ? line.group(2) : line.group(3);
                Due.text("the example's " + line.group(1), Call.of(line.group(1)).on(x), due);
            }
        }
        Due.is("the example has calls", lines.length > 10, true);
    }

    private static void calls(String page, Document document) {
        List<String> calls = document.calls();
        List<String> promises = document.promises();
        Due.same("calls in the document", calls.size(), 26);
        Due.same("promises in the document", promises.size(), 26);
        for (int i = 0; i < calls.size(); i++) {
            String name = calls.get(i).substring(0, calls.get(i).indexOf('('));
            Due.text("promise " + (i + 1), promises.get(i), (i + 1) + (i == 0 ? " A new object" : " " + name));
            Due.is("a row for " + calls.get(i), page.contains("\n| `" + calls.get(i) + "` | " + (i + 1) + " | "), true);
        }
    }

    private static void tests(String page) throws IOException {
        TreeSet<String> named = new TreeSet<>();
        Matcher row = Pattern.compile("(?m)^\\| `(\\w+Test)` \\|").matcher(page);
        while (row.find()) {
            named.add(row.group(1));
        }
        TreeSet<String> there = new TreeSet<>();
        TreeSet<String> helpers = new TreeSet<>();
        try (Stream<Path> files = Files.list(Path.of("src/test/java"))) {
            files.map(file -> file.getFileName().toString().replace(".java", ""))
                    .forEach(name -> (name.endsWith("Test") ? there : helpers).add(name));
        }
        Due.text("tests named", named.toString(), there.toString());
        for (String helper : helpers) {
            Due.is("names " + helper, page.contains("`" + helper + "`"), true);
        }
    }
}
