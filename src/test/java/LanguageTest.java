import java.io.IOException;
import java.nio.file.Files;
import java.nio.file.Path;
import java.util.List;
import java.util.regex.Matcher;
import java.util.regex.Pattern;

/** Those rules of LANGUAGE.md that can be seen in the text of the class. */
public final class LanguageTest {
    public static void main(String[] args) throws IOException {
        Path file = Path.of("src/main/java/Undogroups.java");
        String text = Files.readString(file);
        Due.is("signs 1 to 127", text.chars().allMatch(c -> c > 0 && c < 128), true);
        String code = withoutComments(text);
        for (String word : List.of("import", "package", "synchronized", "assert", "finally", "protected",
                "\\w+Exact", "hashCode", "ArithmeticException", "NullPointerException", "Throwable")) {
            Due.is("without " + word, Pattern.compile("\\b" + word + "\\b").matcher(code).find(), false);
        }
        Due.is("without ->", code.contains("->"), false);
        Due.is("without ::", code.contains("::"), false);
        Due.is("without text +", Pattern.compile("\"\\s*\\+|\\+\\s*\"").matcher(code).find(), false);
        Due.is("at most 12 classes", count(code, "\\bclass\\b") <= 12, true);
        Due.same("each throw is of a new exception", count(code, "\\bthrow\\b"),
                count(code, "throw new (IllegalState|IllegalArgument|IndexOutOfBounds)Exception\\(\"[a-z ]+\"\\);"));
        Due.same("each static field is final", count(code, "private static (?!final)[^(]*[;=]"), 0);
        methodLengths(code);
        Due.end();
    }

    private static String withoutComments(String text) {
        return text.replaceAll("(?s)/\\*.*?\\*/", "").replaceAll("//[^\n]*", "");
    }

    private static int count(String code, String pattern) {
        Matcher matcher = Pattern.compile(pattern).matcher(code);
        int found = 0;
        while (matcher.find()) {
            found++;
        }
        return found;
    }

    /** A method begins at a line that ends with "{" behind a ")", one or two steps in. */
    private static void methodLengths(String code) {
        String[] lines = code.split("\n", -1);
        int start = -1;
        for (int i = 0; i < lines.length; i++) {
            if (lines[i].matches(" {4}( {4})?[a-zA-Z].*\\(.*")) {
                start = i;
            }
            if (start >= 0 && lines[i].matches(" {4}( {4})?}")) {
                Due.is("at most 60 lines from line " + start, i - start < 60, true);
                start = -1;
            }
        }
    }
}
