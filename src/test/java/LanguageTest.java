import java.io.IOException;
import java.nio.file.Files;
import java.nio.file.Path;
import java.util.List;
import java.util.regex.Matcher;
import java.util.regex.Pattern;

/** What of ../shared/LANGUAGE.md can be seen from the text of the program, run from the project's directory. */
public final class LanguageTest {
    private static final Check CHECK = new Check("LanguageTest");

    private static final String[] RULED_OUT = {
        "\\bthrow\\b", "\\bthrows\\b", "\\btry\\b", "\\bcatch\\b", "\\bsynchronized\\b", "\\bassert\\b",
        "->", "::", "\\bpackage\\b", "\\bprotected\\b", "Exact\\b", "\\bMap\\b", "\\bRandom\\b", "\\bThread\\b",
        "nanoTime", "currentTimeMillis", "hashCode", "toString\\s*\\(\\s*\\)\\s*\\{", "@Override",
        "\\bnew\\s+\\w+\\s*\\([^)]*\\)\\s*\\{", "static\\s*\\{", "\\bimport\\s+(?!java\\.util\\.Arrays;)",
        "private\\s+static\\s+(?!final\\b)\\w+(\\[\\])?\\s+\\w+\\s*[=;]", "[^\\x00-\\x7f]", "\\\\u",
    };

    public static void main(String[] args) throws IOException {
        Path file = Path.of("src/main/java/WireLoops.java");
        String program = withoutComments(Files.readString(file));
        for (String ruledOut : RULED_OUT) {
            Matcher matcher = Pattern.compile(ruledOut).matcher(program);
            CHECK.same("ruled out: " + ruledOut, matcher.find() ? matcher.group() : "", "");
        }
        shortMethods(Files.readAllLines(file));
        CHECK.end();
    }

    private static String withoutComments(String program) {
        return program.replaceAll("(?s)/\\*.*?\\*/", " ").replaceAll("//[^\n]*", " ");
    }

    /** A method starts on a line that ends its head with ") {", four or eight columns in. */
    private static void shortMethods(List<String> lines) {
        Pattern head = Pattern.compile("( {4}| {8})[a-z].*\\) \\{");
        for (int i = 0; i < lines.size(); i++) {
            Matcher matcher = head.matcher(lines.get(i));
            if (matcher.matches() && !lines.get(i).trim().matches("(if|for|while|switch) .*")) {
                int last = i;
                while (!lines.get(last).equals(matcher.group(1) + "}")) {
                    last++;
                }
                CHECK.due("60 lines at most: " + lines.get(i).trim(), Math.max(60, last - i + 1), 60);
            }
        }
    }
}
