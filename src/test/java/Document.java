import java.io.IOException;
import java.io.UncheckedIOException;
import java.nio.file.Files;
import java.nio.file.Path;
import java.util.ArrayList;
import java.util.LinkedHashMap;
import java.util.List;
import java.util.Map;
import java.util.Set;
import java.util.regex.Pattern;

/** The document itself, so that the sentences that tests name can be looked up in it. */
final class Document {
    private static final Path FILE = Path.of("../shared/DOC.md");
    private static final Pattern SIGNATURE = Pattern.compile("^`(?:int |long )?\\w+\\([^)]*\\)`: ");

    private final Map<String, List<String>> linesOfSection = new LinkedHashMap<>();

    Document() {
        List<String> lines = new ArrayList<>();
        for (String line : readLines()) {
            if (line.startsWith("## ")) {
                lines = new ArrayList<>();
                linesOfSection.put(line.substring(3).split(":")[0], lines);
            } else if (!line.isBlank()) {
                lines.add(line.strip());
            }
        }
    }

    private static List<String> readLines() {
        try {
            return Files.readAllLines(FILE);
        } catch (IOException unreadable) {
            throw new UncheckedIOException(unreadable);
        }
    }

    /** "What it is", "Terms", "Promise 1", "Promise 2" and so on. */
    Set<String> sections() {
        return linesOfSection.keySet();
    }

    List<String> lines(String section) {
        return linesOfSection.getOrDefault(section, List.of());
    }

    /** The lines of the Java text in a section. */
    List<String> code(String section) {
        List<String> lines = lines(section);
        int begin = lines.indexOf("```java");
        int end = lines.indexOf("```");
        return begin >= 0 && end > begin ? lines.subList(begin + 1, end) : List.of();
    }

    /** Whether the words stand in the section, and do not begin or end within a word. */
    boolean says(String section, String words) {
        String text = String.join(" ", lines(section));
        String whole = "(?<!\\w)" + Pattern.quote(words) + "(?!\\w)";
        return !words.isEmpty() && Pattern.compile(whole).matcher(text).find();
    }

    /** The sentences of a section; parts between semicolons count as sentences of their own. */
    List<String> sentences(String section) {
        List<String> sentences = new ArrayList<>();
        for (String line : lines(section)) {
            String words = SIGNATURE.matcher(line.replaceFirst("^- ", "")).replaceFirst("");
            for (String part : words.split("(?<=[.;])\\s+")) {
                sentences.add(part.replaceFirst("[.;]$", ""));
            }
        }
        return sentences;
    }
}
