import java.io.IOException;
import java.nio.file.Files;
import java.nio.file.Path;
import java.util.HashMap;
import java.util.List;
import java.util.Map;
import java.util.regex.Matcher;
import java.util.regex.Pattern;
import java.util.stream.Stream;

/** Each sentence of the promises and of the terms is named by a test. */
public final class DocumentTest {
    private static final Check CHECK = new Check("DocumentTest");
    private static final Path TESTS = Path.of("src/test/java");
    private static final String TEXT = "\"(?:[^\"\\\\]|\\\\.)*\"";
    private static final Pattern NAMED = Pattern.compile(
            "(?:promise\\((\\d+),|terms\\(|codeOf\\()\\s*(" + TEXT + "(?:\\s*\\+\\s*" + TEXT + ")*)");
    private static final int PROMISES = 31;

    public static void main(String[] args) throws IOException {
        Document document = new Document();
        Map<String, String> named = namedSentences();
        for (int number = 1; number <= PROMISES; number++) {
            String section = "Promise " + number;
            CHECK.holds("the document has " + section, document.sections().contains(section));
            for (String sentence : document.sentences(section)) {
                isNamed(section, sentence, named);
            }
        }
        for (String sentence : document.sentences("Terms")) {
            if (!isTitle(sentence) && !sentence.startsWith("Ahead of the calls ")) {
                isNamed("Terms", sentence.replaceFirst("^The constants: ", ""), named);
            }
        }
        CHECK.holds("there is no promise that this test leaves out",
                !document.sections().contains("Promise " + (PROMISES + 1)));
        CHECK.finish();
    }

    private static boolean isTitle(String sentence) {
        return List.of("Hours", "Kinds", "Lots", "Ice", "Prices", "Limit", "Accounts", "Text", "Undo",
                "Error codes").contains(sentence);
    }

    private static void isNamed(String section, String sentence, Map<String, String> named) {
        boolean isNamed = named.getOrDefault(section, "").contains(sentence);
        CHECK.holds("a test names " + section + ", \"" + sentence + "\"", isNamed);
    }

    /** All that the tests name of a section, a line for each time. */
    private static Map<String, String> namedSentences() throws IOException {
        Map<String, String> named = new HashMap<>();
        try (Stream<Path> files = Files.list(TESTS)) {
            for (Path file : files.filter(path -> path.toString().endsWith("Test.java")).toList()) {
                Matcher matcher = NAMED.matcher(Files.readString(file));
                while (matcher.find()) {
                    String section = matcher.group(1) == null ? "Terms" : "Promise " + matcher.group(1);
                    String words = matcher.group(2).replaceAll("\"\\s*\\+\\s*\"", "");
                    words = words.substring(1, words.length() - 1).replaceAll("\\\\(.)", "$1");
                    named.merge(section, words + "\n", String::concat);
                }
            }
        }
        return named;
    }
}
