import java.io.IOException;
import java.lang.reflect.Field;
import java.lang.reflect.Method;
import java.lang.reflect.Modifier;
import java.nio.file.Files;
import java.nio.file.Path;
import java.util.List;
import java.util.regex.Matcher;
import java.util.regex.Pattern;

/** README.md, run from the project's directory: what it tells of the class stands. */
public final class ReadmeTest {
    private static final Check CHECK = new Check("ReadmeTest");

    private static final String[] FILES = {
        "../shared/DOC.md", "../shared/LANGUAGE.md", "src/main/java/WireLoops.java", ".ci/run",
    };

    /** A row of the example: the call, its arguments, its answer. */
    private static final Pattern EXAMPLE = Pattern.compile("chip\\.(\\w+)\\((.*)\\); +// (-?\\d+).*");

    public static void main(String[] args) throws IOException, ReflectiveOperationException {
        List<String> lines = Files.readAllLines(Path.of("README.md"));
        example(lines);
        rowsOfCalls(lines);
        rowsOfConstants(lines);
        for (String named : FILES) {
            CHECK.due(named + " is named", String.join("\n", lines).contains(named) ? 1 : 0, 1);
            CHECK.due(named + " is there", Files.exists(Path.of(named)) ? 1 : 0, 1);
        }
        CHECK.end();
    }

    private static void example(List<String> lines) throws ReflectiveOperationException {
        WireLoops chip = new WireLoops();
        int rows = 0;
        for (String line : lines) {
            Matcher row = EXAMPLE.matcher(line);
            CHECK.due("the form of " + line, line.startsWith("chip.") && !row.matches() ? 0 : 1, 1);
            if (row.matches()) {
                CHECK.due(line, answer(chip, row.group(1), row.group(2)), Integer.parseInt(row.group(3)));
                rows++;
            }
        }
        CHECK.due("there is an example", Math.min(1, rows), 1);
    }

    private static int answer(WireLoops chip, String name, String arguments) throws ReflectiveOperationException {
        String[] texts = arguments.isEmpty() ? new String[0] : arguments.split(", ");
        Object[] values = new Object[texts.length];
        Class<?>[] types = new Class<?>[texts.length];
        for (int i = 0; i < texts.length; i++) {
            boolean character = texts[i].startsWith("'");
            types[i] = character ? char.class : int.class;
            values[i] = character ? (Object) texts[i].charAt(1) : (Object) Integer.valueOf(texts[i]);
        }
        return (Integer) WireLoops.class.getMethod(name, types).invoke(chip, values);
    }

    private static void rowsOfCalls(List<String> lines) {
        for (Method method : WireLoops.class.getDeclaredMethods()) {
            if (Modifier.isPublic(method.getModifiers())) {
                int more = method.getParameterCount() - 1;
                String arguments = more < 0 ? "" : "\\w+(, \\w+){" + more + "}";
                String row = "\\| `" + method.getName() + "\\(" + arguments + "\\)` \\|.*";
                CHECK.due("rows of " + method.getName(), rows(lines, row), 1);
            }
        }
    }

    private static void rowsOfConstants(List<String> lines) throws IllegalAccessException {
        for (Field field : WireLoops.class.getDeclaredFields()) {
            if (Modifier.isPublic(field.getModifiers())) {
                String row = "\\| " + field.getInt(null) + " \\| `" + field.getName() + "` \\|.*";
                CHECK.due("rows of " + field.getName(), rows(lines, row), 1);
            }
        }
    }

    private static int rows(List<String> lines, String pattern) {
        int rows = 0;
        for (String line : lines) {
            rows += line.matches(pattern) ? 1 : 0;
        }
        return rows;
    }
}
