import java.io.IOException;
import java.nio.file.Files;
import java.nio.file.Path;
import java.util.HashMap;
import java.util.List;
import java.util.Map;
import java.util.Set;
import java.util.TreeSet;
import java.util.regex.Matcher;
import java.util.regex.Pattern;
import java.util.stream.Stream;

/** Each sentence of the document is named by a test. */
public final class DocumentTest {
    private static final Check CHECK = new Check("DocumentTest");
    private static final Path TESTS = Path.of("src/test/java");
    private static final String TEXT = "\"(?:[^\"\\\\]|\\\\.)*\"";
    private static final Pattern NAMED = Pattern.compile("(?:promise\\((\\d+),|section\\(\"([^\"]+)\",|terms\\(|codeOf\\()"
            + "\\s*(" + TEXT + "(?:\\s*\\+\\s*" + TEXT + ")*)");
    private static final int PROMISES = 31;

    public static void main(String[] args) throws IOException {
        Document document = new Document();
        CHECK.holds("the sections are those that the tests speak of: " + document.sections(),
                new TreeSet<>(document.sections()).equals(knownSections()));
        Map<String, String> named = namedSentences();
        for (String section : document.sections()) {
            for (String sentence : document.sentences(section)) {
                if (!isHeldByFaceTest(section, sentence) && !isTitle(sentence)) {
                    isNamed(section, sentence.replaceFirst("^The constants: ", ""), named);
                }
            }
        }
        CHECK.finish();
    }

    private static Set<String> knownSections() {
        Set<String> sections = new TreeSet<>(List.of("What it is", "The public face", "Terms", "Not promised"));
        for (int number = 1; number <= PROMISES; number++) {
            sections.add("Promise " + number);
        }
        return sections;
    }

    private static boolean isHeldByFaceTest(String section, String sentence) {
        return section.equals("The public face") || sentence.startsWith("Ahead of the calls ");
    }

    private static boolean isTitle(String sentence) {
        return List.of("Hours", "Kinds", "Lots", "Ice", "Prices", "Limit", "Accounts", "Text", "Undo",
                "Error codes").contains(sentence);
    }

    private static void isNamed(String section, String sentence, Map<String, String> named) {
        boolean isNamed = named.getOrDefault(section, "").contains(sentence);
        CHECK.holds("a test names " + section + ", \"" + sentence + "\"", isNamed);
    }

    /** All that the tests name of a section, a line for each time. */
    private static Map<String, String> namedSentences() throws IOException {
        Map<String, String> named = new HashMap<>();
        try (Stream<Path> files = Files.list(TESTS)) {
            for (Path file : files.filter(path -> path.toString().endsWith("Test.java")).toList()) {
                Matcher matcher = NAMED.matcher(Files.readString(file));
                while (matcher.find()) {
                    String words = matcher.group(3).replaceAll("\"\\s*\\+\\s*\"", "");
                    words = words.substring(1, words.length() - 1).replaceAll("\\\\(.)", "$1");
                    named.merge(sectionOf(matcher), words + "\n", String::concat);
                }
            }
        }
        return named;
    }

    private static String sectionOf(Matcher matcher) {
        if (matcher.group(1) != null) {
            return "Promise " + matcher.group(1);
        }
        return matcher.group(2) != null ? matcher.group(2) : "Terms";
    }
}
