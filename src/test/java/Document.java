import java.io.IOException;
import java.nio.file.Files;
import java.nio.file.Path;
import java.util.ArrayList;
import java.util.LinkedHashMap;
import java.util.List;
import java.util.Map;

/** The document, cut into sections and their sentences; found from the project's directory. */
final class Document {
    private static final Path FILE = Path.of("../shared/DOC.md");

    private Document() {
    }

    /** The sentences by the names of their sections: "Promise 2", or, of the terms, "CROSSINGS" and the like. */
    static Map<String, List<String>> sections() throws IOException {
        Map<String, List<String>> sections = new LinkedHashMap<>();
        List<String> section = new ArrayList<>();
        boolean code = false;
        for (String line : Files.readAllLines(FILE)) {
            if (line.startsWith("```")) {
                code = !code;
            } else if (line.startsWith("## ")) {
                section = begun(sections, line.substring(3).replaceAll(":.*", ""));
            } else if (line.matches("[A-Z, ]+")) {
                section = begun(sections, line);
            } else if (!code && !line.isBlank() && !line.startsWith("#")) {
                section.addAll(sentences(line));
            }
        }
        return sections;
    }

    private static List<String> begun(Map<String, List<String>> sections, String name) {
        List<String> section = new ArrayList<>();
        sections.put(name, section);
        return section;
    }

    /** A line is a paragraph or a row of a list; a sentence ends at a "." with a capital or a name behind it. */
    private static List<String> sentences(String line) {
        return List.of(line.replaceFirst("^- ", "").split("(?<=\\.)\\s+(?=[A-Z`])"));
    }
}
