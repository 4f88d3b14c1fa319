import java.io.IOException;
import java.nio.file.Files;
import java.nio.file.Path;
import java.util.ArrayList;
import java.util.List;
import java.util.regex.Matcher;
import java.util.regex.Pattern;

/** The public face as ../shared/DOC.md writes it, and the number of each call's promise. */
final class Document {
    private static final Pattern FACE = Pattern.compile(
            "(?m)^ {4}public (\\w+ )?(\\w+)\\(([^)]*)\\)(?: throws ([^;]*))?;$");
    private static final Pattern PROMISE = Pattern.compile("(?m)^## Promise (\\d+): (.*)$");

    private final String text;

    private Document(String text) {
        this.text = text;
    }

    static Document read() throws IOException {
        return new Document(Files.readString(Path.of("../shared/DOC.md")));
    }

    /** Such as "int cut(int) IndexOutOfBoundsException IllegalStateException". */
    List<String> methods() {
        List<String> all = new ArrayList<>();
        Matcher line = FACE.matcher(text);
        while (line.find()) {
            if (line.group(1) != null) {
                String kinds = line.group(3).replaceAll(" \\w+(,|$)", "$1").replace(", ", ",");
                String thrown = line.group(4) == null ? "" : " " + line.group(4).replace(", ", " ");
                all.add(line.group(1) + line.group(2) + "(" + kinds + ")" + thrown);
            }
        }
        return all;
    }

    /** Such as "cut(edge)"; the constructor has "new" ahead. */
    List<String> calls() {
        List<String> all = new ArrayList<>();
        Matcher line = FACE.matcher(text);
        while (line.find()) {
            String names = line.group(3).replaceAll("\\w+ (\\w+)", "$1");
            all.add((line.group(1) == null ? "new " : "") + line.group(2) + "(" + names + ")");
        }
        return all;
    }

    /** The promises are in the order of the face, the constructor's first. */
    List<String> promises() {
        List<String> all = new ArrayList<>();
        Matcher line = PROMISE.matcher(text);
        while (line.find()) {
            all.add(line.group(1) + " " + line.group(2));
        }
        return all;
    }
}
