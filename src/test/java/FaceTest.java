import java.io.IOException;
import java.lang.reflect.Constructor;
import java.lang.reflect.Field;
import java.lang.reflect.Method;
import java.lang.reflect.Modifier;
import java.nio.file.Files;
import java.nio.file.Path;
import java.util.ArrayList;
import java.util.List;
import java.util.Set;
import java.util.TreeSet;
import java.util.regex.Matcher;
import java.util.regex.Pattern;

/** The section "The public face", and the rules of LANGUAGE.md that a look at the class or its text can tell. */
public final class FaceTest {
    private static final Check CHECK = new Check("FaceTest");
    private static final Document DOCUMENT = new Document();
    private static final Pattern HEADING =
            Pattern.compile("Ahead of the calls ([^:]*) the interface says: (---- .*)\\.");
    private static final int LONGEST_METHOD = 60;

    private final List<String> lines;
    private final String code;

    private FaceTest(String source) {
        lines = source.lines().toList();
        code = source.replaceAll("(?s)/\\*.*?\\*/", "").replaceAll("//[^\n]*", "");
    }

    public static void main(String[] args) throws IOException {
        FaceTest test = new FaceTest(Files.readString(Path.of("src/main/java/FishCounter.java")));
        constantsAreThoseOfTheDocument();
        test.sourceHasEachLineOfTheFace();
        test.headingsStandAheadOfTheirCalls();
        noOtherMemberIsSeenFromOutside();
        privateNamesAreNotThoseOfCalls();
        objectsShareNothing();
        objectsLeaveFreeWhatIsFree();
        innerClassesAreFew();
        test.sourceKeepsToTheLanguage();
        test.methodsAreShort();
        CHECK.finish();
    }

    private static void constantsAreThoseOfTheDocument() {
        CHECK.due("NO_SUCH", FishCounter.NO_SUCH, -1);
        CHECK.due("BAD_VALUE", FishCounter.BAD_VALUE, -2);
        CHECK.due("NOT_POSSIBLE", FishCounter.NOT_POSSIBLE, -3);
        CHECK.due("LIMIT", FishCounter.LIMIT, -4);
        CHECK.due("BAD_TEXT", FishCounter.BAD_TEXT, -5);
        CHECK.due("NONE", FishCounter.NONE, -6);
    }

    /** With the types and the names of the parameters. */
    private void sourceHasEachLineOfTheFace() {
        List<String> due = new ArrayList<>();
        for (String line : DOCUMENT.code("The public face")) {
            if (!line.equals("}")) {
                due.add(line.replaceFirst("\\);$", ") {"));
            }
        }
        CHECK.due("the class, its constants, its constructor, its calls", due.size(), 1 + 6 + 1 + 30);
        List<String> got = lines.stream().map(String::strip).filter(line -> line.startsWith("public ")).toList();
        CHECK.same("lines that begin with public", got, due);
    }

    private void headingsStandAheadOfTheirCalls() {
        List<String> due = new ArrayList<>();
        for (String line : DOCUMENT.lines("Terms")) {
            Matcher heading = HEADING.matcher(line);
            if (heading.matches()) {
                due.add("// " + heading.group(2));
                due.addAll(List.of(heading.group(1).replace("`", "").split(", ")));
            }
        }
        CHECK.due("headings and calls of the document", due.size(), 7 + 30);
        List<String> got = new ArrayList<>();
        for (String line : lines) {
            Matcher call = Pattern.compile("    public (?:int|long) (\\w+)\\(.*").matcher(line);
            if (line.startsWith("    // ----")) {
                got.add(line.strip());
            } else if (call.matches()) {
                got.add(call.group(1));
            }
        }
        CHECK.same("headings and calls", got, due);
    }

    private static void noOtherMemberIsSeenFromOutside() {
        Set<String> constants = new TreeSet<>();
        for (Field field : FishCounter.class.getDeclaredFields()) {
            if (!Modifier.isPrivate(field.getModifiers())) {
                constants.add(field.getName());
                CHECK.holds(field + " is a constant", field.getModifiers()
                        == (Modifier.PUBLIC | Modifier.STATIC | Modifier.FINAL) && field.getType() == int.class);
            }
        }
        CHECK.holds("the constants are six", constants.equals(Set.of(
                "NO_SUCH", "BAD_VALUE", "NOT_POSSIBLE", "LIMIT", "BAD_TEXT", "NONE")));
        for (Method method : FishCounter.class.getDeclaredMethods()) {
            int seen = method.getModifiers() & (Modifier.PUBLIC | Modifier.PRIVATE);
            CHECK.holds(method + " is public or private", seen != 0);
        }
        Constructor<?>[] constructors = FishCounter.class.getDeclaredConstructors();
        CHECK.due("constructors", constructors.length, 1);
        CHECK.holds("it is public", Modifier.isPublic(constructors[0].getModifiers()));
        CHECK.due("its parameters", constructors[0].getParameterCount(), 0);
        CHECK.holds("the class is final", Modifier.isFinal(FishCounter.class.getModifiers()));
    }

    private static void privateNamesAreNotThoseOfCalls() {
        Set<String> publicNames = new TreeSet<>();
        for (Method method : FishCounter.class.getDeclaredMethods()) {
            if (Modifier.isPublic(method.getModifiers())) {
                publicNames.add(method.getName());
            }
        }
        List<Method> others = new ArrayList<>(List.of(FishCounter.class.getDeclaredMethods()));
        others.removeIf(method -> Modifier.isPublic(method.getModifiers()));
        for (Class<?> inner : FishCounter.class.getDeclaredClasses()) {
            others.addAll(List.of(inner.getDeclaredMethods()));
        }
        for (Method method : others) {
            CHECK.holds(method + ": rule 1, names", !publicNames.contains(method.getName()));
            CHECK.holds(method + ": rule 11, parameters", method.getParameterCount() <= 7);
        }
    }

    /** So that two threads may use an object each. */
    private static void objectsShareNothing() {
        CHECK.section("Not promised", "Use of one object from several threads at once is not promised to be safe");
        List<Class<?>> classes = new ArrayList<>(List.of(FishCounter.class.getDeclaredClasses()));
        classes.add(FishCounter.class);
        for (Class<?> one : classes) {
            for (Field field : one.getDeclaredFields()) {
                boolean isShared = Modifier.isStatic(field.getModifiers());
                boolean isConstant = Modifier.isFinal(field.getModifiers()) && field.getType().isPrimitive();
                CHECK.holds(field + ": rule 5, static state", !isShared || isConstant);
            }
        }
    }

    private static void objectsLeaveFreeWhatIsFree() {
        CHECK.section("Not promised", "How the state is held inside the object is free, as are the speed of each call,"
                + " the text of toString and the behaviour of equals and hashCode");
        for (Method method : FishCounter.class.getMethods()) {
            if (Set.of("toString", "equals", "hashCode").contains(method.getName())) {
                CHECK.holds(method + ": rule 6", method.getDeclaringClass() == Object.class);
            }
        }
    }

    private static void innerClassesAreFew() {
        Class<?>[] inner = FishCounter.class.getDeclaredClasses();
        CHECK.holds("rule 11, classes", inner.length < 12);
        for (Class<?> one : inner) {
            CHECK.holds(one + ": rule 2, static", Modifier.isStatic(one.getModifiers()));
            CHECK.holds(one + ": rule 11, fields", one.getDeclaredFields().length <= 20);
        }
    }

    private void sourceKeepsToTheLanguage() {
        String[] outside = {"throw", "try", "catch", "synchronized", "assert", "import", "package", "instanceof",
            "Object", "System.out", "toString", "hashCode", "Exact", "var"};
        for (String word : outside) {
            boolean used = Pattern.compile("\\b" + Pattern.quote(word) + "\\b").matcher(code).find();
            CHECK.holds("rules 2 to 6: no " + word, !used);
        }
        CHECK.holds("rule 2: no lambda and no method reference", !code.contains("->") && !code.contains("::"));
        for (int i = 0; i < code.length(); i++) {
            char sign = code.charAt(i);
            if (sign != '\n' && (sign < 32 || sign > 126)) {
                CHECK.holds("rule 4: plain signs, not " + (int) sign, false);
            }
        }
        Matcher calls = Pattern.compile("\\b(System|Math|Integer|Long|Arrays)\\.(\\w+)").matcher(code);
        Set<String> library = new TreeSet<>();
        while (calls.find()) {
            library.add(calls.group());
        }
        CHECK.holds("rule 4: the library is Math.max, Math.min, System.arraycopy, not " + library,
                Set.of("Math.max", "Math.min", "System.arraycopy").containsAll(library));
    }

    private void methodsAreShort() {
        int methods = 0;
        int begin = 0;
        for (int i = 0; i < lines.size(); i++) {
            if (lines.get(i).matches(" {4}(?: {4})?[^ /*@}][^=]*\\(.*\\{") && !lines.get(i).strip().startsWith("if")) {
                methods++;
                begin = i;
            } else if (lines.get(i).matches(" {4}(?: {4})?\\}")) {
                CHECK.holds("rule 11, a short method: " + lines.get(begin), i - begin < LONGEST_METHOD);
            }
        }
        CHECK.holds("methods are found: " + methods, methods > 60);
    }
}
