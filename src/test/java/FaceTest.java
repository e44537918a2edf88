import java.io.IOException;
import java.lang.reflect.Constructor;
import java.lang.reflect.Field;
import java.lang.reflect.Method;
import java.lang.reflect.Modifier;
import java.nio.file.Files;
import java.nio.file.Path;
import java.util.Arrays;
import java.util.List;
import java.util.Set;
import java.util.TreeSet;
import java.util.regex.Matcher;
import java.util.regex.Pattern;

/** The public face of the document, and the rules of LANGUAGE.md that a look at the class or its text can tell. */
public final class FaceTest {
    private static final Check CHECK = new Check("FaceTest");
    private static final List<String> METHODS = List.of(
            "int setPrice(3)", "int setCut(2)", "int setMelting(2)", "int deliver(4)",
            "int iceBox(2)", "int iceTray(2)", "int toTray(2)", "int toBox(2)", "int divide(3)",
            "int throwAway(1)", "int order(4)", "int pass(0)", "int close(0)", "long count(1)",
            "int lot(2)", "int box(2)", "int tray(2)", "int kind(2)", "int cut(1)",
            "int freshAfter(2)", "int hoursLeft(1)", "int bestHour(1)", "int ifClosed(1)",
            "long worth(0)", "int type(1)", "int clearText(0)", "int syntaxError(0)",
            "int deliverAll(0)", "int undo(0)", "long digest(0)");

    public static void main(String[] args) throws IOException {
        constantsAreThoseOfTheDocument();
        methodsAreThoseOfTheDocument();
        noOtherMemberIsSeenFromOutside();
        innerClassesAreFew();
        sourceKeepsToTheLanguage();
        CHECK.finish();
    }

    private static void constantsAreThoseOfTheDocument() {
        CHECK.due("NO_SUCH", FishCounter.NO_SUCH, -1);
        CHECK.due("BAD_VALUE", FishCounter.BAD_VALUE, -2);
        CHECK.due("NOT_POSSIBLE", FishCounter.NOT_POSSIBLE, -3);
        CHECK.due("LIMIT", FishCounter.LIMIT, -4);
        CHECK.due("BAD_TEXT", FishCounter.BAD_TEXT, -5);
        CHECK.due("NONE", FishCounter.NONE, -6);
    }

    private static void methodsAreThoseOfTheDocument() {
        Set<String> found = new TreeSet<>();
        Set<String> publicNames = new TreeSet<>();
        for (Method method : FishCounter.class.getDeclaredMethods()) {
            if (Modifier.isPublic(method.getModifiers())) {
                found.add(method.getReturnType() + " " + method.getName() + "(" + method.getParameterCount() + ")");
                publicNames.add(method.getName());
                for (Class<?> type : method.getParameterTypes()) {
                    CHECK.holds(method + " takes ints", type == int.class);
                }
            }
        }
        CHECK.holds("the methods are " + METHODS, found.equals(new TreeSet<>(METHODS)));
        for (Method method : FishCounter.class.getDeclaredMethods()) {
            boolean bearsPublicName = publicNames.contains(method.getName());
            CHECK.holds(method + ": rule 1, names", bearsPublicName == Modifier.isPublic(method.getModifiers()));
        }
        for (Class<?> inner : FishCounter.class.getDeclaredClasses()) {
            for (Method method : inner.getDeclaredMethods()) {
                CHECK.holds(method + ": rule 1, names", !publicNames.contains(method.getName()));
            }
        }
    }

    private static void noOtherMemberIsSeenFromOutside() {
        Set<String> constants = new TreeSet<>();
        for (Field field : FishCounter.class.getDeclaredFields()) {
            if (!Modifier.isPrivate(field.getModifiers())) {
                constants.add(field.getName());
                CHECK.holds(field + " is a constant", field.getModifiers()
                        == (Modifier.PUBLIC | Modifier.STATIC | Modifier.FINAL) && field.getType() == int.class);
            }
        }
        CHECK.holds("the constants are six", constants.equals(new TreeSet<>(Arrays.asList(
                "NO_SUCH", "BAD_VALUE", "NOT_POSSIBLE", "LIMIT", "BAD_TEXT", "NONE"))));
        for (Method method : FishCounter.class.getDeclaredMethods()) {
            int seen = method.getModifiers() & (Modifier.PUBLIC | Modifier.PRIVATE);
            CHECK.holds(method + " is public or private", seen != 0);
        }
        Constructor<?>[] constructors = FishCounter.class.getDeclaredConstructors();
        CHECK.due("constructors", constructors.length, 1);
        CHECK.holds("it is public", Modifier.isPublic(constructors[0].getModifiers()));
        CHECK.due("its parameters", constructors[0].getParameterCount(), 0);
        CHECK.holds("the class is final", Modifier.isFinal(FishCounter.class.getModifiers()));
    }

    private static void innerClassesAreFew() {
        Class<?>[] inner = FishCounter.class.getDeclaredClasses();
        CHECK.holds("rule 11, classes", inner.length < 12);
        for (Class<?> one : inner) {
            CHECK.holds(one + ": rule 2, static", Modifier.isStatic(one.getModifiers()));
            CHECK.holds(one + ": rule 11, fields", one.getDeclaredFields().length <= 20);
        }
    }

    private static void sourceKeepsToTheLanguage() throws IOException {
        String code = codeWithoutComments(Files.readString(Path.of("src/main/java/FishCounter.java")));
        String[] outside = {"throw", "try", "catch", "synchronized", "assert", "import", "package", "instanceof",
            "Object", "System.out", "toString", "hashCode", "Exact", "var"};
        for (String word : outside) {
            boolean used = Pattern.compile("\\b" + Pattern.quote(word) + "\\b").matcher(code).find();
            CHECK.holds("rules 2 to 6: no " + word, !used);
        }
        CHECK.holds("rule 2: no lambda and no method reference", !code.contains("->") && !code.contains("::"));
        for (int i = 0; i < code.length(); i++) {
            char sign = code.charAt(i);
            if (sign != '\n' && (sign < 32 || sign > 126)) {
                CHECK.holds("rule 4: plain signs, not " + (int) sign, false);
            }
        }
        Matcher calls = Pattern.compile("\\b(System|Math|Integer|Long|Arrays)\\.(\\w+)").matcher(code);
        Set<String> library = new TreeSet<>();
        while (calls.find()) {
            library.add(calls.group());
        }
        CHECK.holds("rule 4: the library is Math.max, Math.min, System.arraycopy, not " + library,
                Set.of("Math.max", "Math.min", "System.arraycopy").containsAll(library));
    }

    private static String codeWithoutComments(String source) {
        return source.replaceAll("(?s)/\\*.*?\\*/", "").replaceAll("//[^\n]*", "");
    }
}
