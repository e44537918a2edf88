import java.io.IOException;
import java.lang.reflect.Method;
import java.nio.file.Files;
import java.nio.file.Path;
import java.util.ArrayList;
import java.util.List;
import java.util.regex.Matcher;
import java.util.regex.Pattern;
import java.util.stream.Stream;

/** What README.md says of the class: its example, its calls, its error codes, its tests. */
public final class ReadmeTest {
    private static final Check CHECK = new Check("ReadmeTest");
    private static final Pattern CALL_AND_ANSWER = Pattern.compile("shop\\.(\\w+)\\(([-\\d, ]*)\\); *// (-?\\d+): .*");
    private static final Pattern CALL = Pattern.compile("public (?:int|long) (\\w+)\\((.*)\\);");
    private static final Pattern CONSTANT = Pattern.compile("public static final int (\\w+) = (-\\d);");
    private static final int FIRST_CALL = 2;

    public static void main(String[] args) throws IOException, ReflectiveOperationException {
        List<String> readme = Files.readAllLines(Path.of("README.md"));
        exampleAnswersAsItSays(readme);
        callsAreThoseOfTheFace(readme);
        errorCodesAreThoseOfTheFace(readme);
        testsAreThose(readme);
        CHECK.finish();
    }

    private static void exampleAnswersAsItSays(List<String> readme) throws ReflectiveOperationException {
        FishCounter shop = new FishCounter();
        int calls = 0;
        for (String line : readme) {
            Matcher matcher = CALL_AND_ANSWER.matcher(line);
            if (matcher.matches()) {
                calls++;
                CHECK.due(line, answer(shop, matcher.group(1), matcher.group(2)), Long.parseLong(matcher.group(3)));
            }
        }
        CHECK.due("calls of the example", calls, readme.stream().filter(line -> line.startsWith("shop.")).count());
        CHECK.holds("there is an example", calls > 0);
    }

    private static long answer(FishCounter shop, String name, String list) throws ReflectiveOperationException {
        List<Object> arguments = new ArrayList<>();
        for (String argument : list.split(", ")) {
            if (!argument.isEmpty()) {
                arguments.add(Integer.valueOf(argument));
            }
        }
        for (Method method : FishCounter.class.getMethods()) {
            if (method.getName().equals(name) && method.getParameterCount() == arguments.size()) {
                return ((Number) method.invoke(shop, arguments.toArray())).longValue();
            }
        }
        throw new NoSuchMethodException(name);
    }

    private static void callsAreThoseOfTheFace(List<String> readme) {
        int promise = FIRST_CALL;
        for (String line : new Document().code("The public face")) {
            Matcher call = CALL.matcher(line);
            if (call.matches()) {
                String row = "| " + promise + " | `" + call.group(1) + "(" + call.group(2).replace("int ", "") + ")` | ";
                CHECK.holds("README.md has " + row, hasRow(readme, row));
                promise++;
            }
        }
        CHECK.due("the last promise", promise - 1, 31);
        CHECK.holds("README.md names the constructor", hasText(readme, "The constructor `FishCounter()`"));
        CHECK.holds("README.md names the 512 calls", hasText(readme, "An object is used for at most 512 calls"));
    }

    private static void errorCodesAreThoseOfTheFace(List<String> readme) {
        int constants = 0;
        for (String line : new Document().code("The public face")) {
            Matcher constant = CONSTANT.matcher(line);
            if (constant.matches()) {
                constants++;
                String row = "| `" + constant.group(1) + "` | " + constant.group(2) + " | ";
                CHECK.holds("README.md has " + row, hasRow(readme, row));
            }
        }
        CHECK.due("the constants", constants, 6);
    }

    private static void testsAreThose(List<String> readme) throws IOException {
        try (Stream<Path> files = Files.list(Path.of("src/test/java"))) {
            for (String name : files.map(file -> file.getFileName().toString()).sorted().toList()) {
                if (name.endsWith("Test.java")) {
                    CHECK.holds("README.md names " + name, hasRow(readme, "| " + name.replace(".java", "") + " | "));
                }
            }
        }
    }

    private static boolean hasRow(List<String> readme, String begin) {
        return readme.stream().anyMatch(line -> line.startsWith(begin));
    }

    private static boolean hasText(List<String> readme, String text) {
        return readme.stream().anyMatch(line -> line.contains(text));
    }
}
