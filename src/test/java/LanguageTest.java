import java.io.IOException;
import java.nio.file.Files;
import java.nio.file.Path;
import java.util.ArrayList;
import java.util.List;
import java.util.regex.Matcher;
import java.util.regex.Pattern;

/** What a look at the source's text can tell of the rules in ../shared/LANGUAGE.md; it is run at the project's root. */
public final class LanguageTest {
    // Each is followed by the rule that forbids it.
    private static final String[] FORBIDDEN = {
        "\\b(package|import)\\b", "the file's form, 4",
        "->|::", "2",
        "\\b(throw|throws|try|catch|finally|synchronized|assert)\\b", "6",
        "\\b(equals|hashCode|toString)\\b", "6",
        "\\b(float|double|Object|Exception|System|Math|String)\\b", "3, 4: not needed here",
        "\\b(volatile|transient|native|Thread|Random)\\b", "13",
        "\\bstatic\\s*\\{", "5",
        "\"", "9, 10: no text is needed here",
        "\\bwhile\\b|\\bdo\\b", "9: each loop here counts, or follows the links of a device",
        "\\b(protected)\\b", "1"
    };
    private static final int LONGEST_METHOD = 60;
    private static final int MOST_CLASSES = 12;
    private static final int MOST_PARAMETERS = 7;

    private static int count(String text, String pattern) {
        Matcher matcher = Pattern.compile(pattern).matcher(text);
        int found = 0;
        while (matcher.find()) {
            found++;
        }
        return found;
    }

    /** The code without its comments; the lines stay. */
    private static String code(String source) {
        StringBuilder bare = new StringBuilder();
        Matcher comment = Pattern.compile("//[^\n]*|/\\*.*?\\*/", Pattern.DOTALL).matcher(source);
        while (comment.find()) {
            comment.appendReplacement(bare, "\n".repeat(count(comment.group(), "\n")));
        }
        comment.appendTail(bare);
        return bare.toString();
    }

    /** The line numbers from each method's head to its end, by the file's own indents. */
    private static List<int[]> methods(String[] lines) {
        List<int[]> methods = new ArrayList<>();
        Pattern head = Pattern.compile("^( {4}| {8})(public|private)[^=;]*\\([^=;]*\\) \\{$");
        for (int i = 0; i < lines.length; i++) {
            Matcher matcher = head.matcher(lines[i]);
            if (matcher.find()) {
                int end = i;
                while (!lines[end].equals(matcher.group(1) + "}")) {
                    end++;
                }
                methods.add(new int[] {i, end});
            }
        }
        return methods;
    }

    public static void main(String[] args) throws IOException {
        String source = Files.readString(Path.of("src/main/java/LineOfHeirs.java"));
        String code = code(source);
        for (int i = 0; i < FORBIDDEN.length; i += 2) {
            Due.is("rule " + FORBIDDEN[i + 1] + ": /" + FORBIDDEN[i] + "/ found", count(code, FORBIDDEN[i]), 0);
        }
        Due.is("characters above 127", count(source, "[^\\x00-\\x7f]"), 0);
        Due.is("at most " + MOST_CLASSES + " classes", count(code, "\\bclass\\b") <= MOST_CLASSES ? 1 : 0, 1);
        Due.is("classes inside that aren't static and final", count(code, "\\bclass\\b"),
            1 + count(code, "private static final class "));
        String[] lines = code.split("\n");
        List<int[]> methods = methods(lines);
        Due.is("methods are found", methods.size() > 40 ? 1 : 0, 1);
        for (int[] method : methods) {
            String head = lines[method[0]].trim();
            Due.is("rule 11: lines of " + head + " too many",
                Math.max(0, method[1] - method[0] + 1 - LONGEST_METHOD), 0);
            Due.is("rule 11: parameters of " + head + " too many",
                Math.max(0, count(head, ",") + 1 - MOST_PARAMETERS), 0);
        }
        Due.end("LanguageTest");
    }
}
