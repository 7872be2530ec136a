import java.io.IOException;
import java.lang.reflect.Field;
import java.lang.reflect.Modifier;
import java.nio.file.Files;
import java.nio.file.Path;
import java.util.HashMap;
import java.util.HashSet;
import java.util.List;
import java.util.Map;
import java.util.Set;
import java.util.regex.Matcher;
import java.util.regex.Pattern;

/** What of ../shared/LANGUAGE.md can be seen from the text of the program, run from the project's directory. */
public final class LanguageTest {
    private static final Check CHECK = new Check("LanguageTest");
    private static final Path FILE = Path.of("src/main/java/WireLoops.java");

    /** The rule's number, and what it rules out. */
    private static final String[][] RULED_OUT = {
        {"the program is one file without a package", "\\bpackage\\b"},
        {"1", "\\bprotected\\b"},
        {"2, local and anonymous classes", "\\bnew\\s+\\w+\\s*\\([^)]*\\)\\s*\\{"},
        {"2, lambdas", "(?<!case [\\w, ]{1,80}|default ?)->"},
        {"2, method references", "::"},
        {"2, inner classes", "(?<!static |static final |static abstract )\\bclass\\s+(?!WireLoops\\b)"},
        {"4, imports", "\\bimport\\s+(?!java\\.util\\.(Arrays|ArrayList|List|Iterator);)"},
        {"4, names ending in Exact", "Exact\\b"},
        {"4, signs in constants", "[^\\x00-\\x7f]|\\\\u"},
        {"5, static fields", "\\bstatic\\s+(?!final\\b)[\\w<>]+(\\[\\])*\\s+\\w+\\s*[=;]"},
        {"5, static initialiser blocks", "\\bstatic\\s*\\{"},
        {"6", "\\b(throw|throws|try|catch|synchronized|assert)\\b"},
        {"6, own equals, hashCode, toString", "\\b(equals|hashCode|toString)\\s*\\([^)]*\\)\\s*\\{"},
        {"13", "\\b(System\\.(?!arraycopy)|Math\\.random|Random|Thread|File|Files|Socket)\\w*"},
    };

    public static void main(String[] args) throws IOException {
        String program = withoutComments(Files.readString(FILE));
        for (String[] rule : RULED_OUT) {
            Matcher matcher = Pattern.compile(rule[1]).matcher(program);
            CHECK.same("rule " + rule[0], matcher.find() ? matcher.group() : "", "");
        }
        sizes();
        methods(Files.readAllLines(FILE));
        CHECK.end();
    }

    private static String withoutComments(String program) {
        return program.replaceAll("(?s)/\\*.*?\\*/", " ").replaceAll("//[^\n]*", " ");
    }

    /** Rule 11: some twelve classes, of some twenty fields each. */
    private static void sizes() {
        Class<?>[] inside = WireLoops.class.getDeclaredClasses();
        CHECK.due("rule 11, classes", Math.max(12, 1 + inside.length), 12);
        fields(WireLoops.class);
        for (Class<?> one : inside) {
            fields(one);
        }
    }

    private static void fields(Class<?> one) {
        int fields = 0;
        for (Field field : one.getDeclaredFields()) {
            fields += Modifier.isStatic(field.getModifiers()) ? 0 : 1;
        }
        CHECK.due("rule 11, fields of " + one.getName(), Math.max(20, fields), 20);
    }

    /** Rules 8 and 11, by the names of the methods: sixty lines, seven parameters, no recursion, calls eight deep. */
    private static void methods(List<String> lines) {
        Pattern head = Pattern.compile("( {4}| {8})[a-z].*?(\\w+)\\((.*)\\) \\{");
        Map<String, String> bodies = new HashMap<>();
        for (int i = 0; i < lines.size(); i++) {
            Matcher matcher = head.matcher(lines.get(i));
            if (matcher.matches() && !lines.get(i).trim().matches("(if|for|while|switch) .*")) {
                int last = i;
                while (!lines.get(last).equals(matcher.group(1) + "}")) {
                    last++;
                }
                String name = matcher.group(2);
                CHECK.due("rule 11, lines of " + name, Math.max(60, last - i + 1), 60);
                CHECK.due("rule 11, parameters of " + name, Math.max(7, matcher.group(3).split(",").length), 7);
                String body = String.join("\n", lines.subList(i + 1, last));
                bodies.merge(name, body, (one, other) -> one + "\n" + other);
            }
        }
        for (String name : bodies.keySet()) {
            CHECK.due("rules 8 and 11, calls from " + name, Math.max(8, depth(name, bodies, new HashSet<>())), 8);
        }
    }

    /** How deep the calls go from a method on, itself counted; 100 and more if they come back to it. */
    private static int depth(String name, Map<String, String> bodies, Set<String> open) {
        if (!open.add(name)) {
            return 100;
        }
        int deepest = 0;
        Matcher calls = Pattern.compile("(?<!new |Math\\.|Arrays\\.|System\\.)\\b(\\w+)\\(").matcher(bodies.get(name));
        while (calls.find()) {
            if (bodies.containsKey(calls.group(1))) {
                deepest = Math.max(deepest, depth(calls.group(1), bodies, open));
            }
        }
        open.remove(name);
        return deepest + 1;
    }
}
