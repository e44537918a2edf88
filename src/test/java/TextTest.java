/** Promises 26 to 28: type, clearText, syntaxError. */
public final class TextTest {
    private static final Check CHECK = new Check("TextTest");

    public static void main(String[] args) {
        typeAppends();
        typeTakesItsRange();
        typeReturnsTheLength();
        typeRefuses();
        clearTextMakesTheTextEmpty();
        clearTextReturnsTheLength();
        syntaxErrorTellsWhichSignsMayFollow();
        syntaxErrorFindsTheFirstOfSeveral();
        syntaxErrorOfNumbers();
        syntaxErrorOfUnfinishedTexts();
        syntaxErrorOfFullTexts();
        syntaxErrorOfDeliveries();
        syntaxErrorReadsNoClearedSigns();
        textCallsSaveNothing();
        CHECK.finish();
    }

    private static void errorOf(String text, int want) {
        FishCounter shop = Shops.withText(text);
        CHECK.due("syntaxError() of " + text, shop.syntaxError(), want);
        CHECK.due("the text stays: " + text, shop.clearText(), text.length());
    }

    private static void typeAppends() {
        CHECK.promise(26, "Appends a character to the text");
        FishCounter shop = new FishCounter();
        String text = "5:20000/100@5;0:1/0@0";
        for (int i = 0; i < text.length(); i++) {
            shop.type(text.charAt(i));
        }
        CHECK.due("the lots of the text", shop.deliverAll(), 2);
        CHECK.due("lot(1, 1)", shop.lot(1, 1), 20000);
        CHECK.due("lot(2, 1)", shop.lot(2, 1), 1);
    }

    private static void typeTakesItsRange() {
        CHECK.promise(26, "`code`: character code, 33 to 126");
        CHECK.rangeElseBadValue(33, 126, Shops::busy, code -> shop -> shop.type(code));
        CHECK.rangeElseBadValue(33, 126, FishCounter::new, code -> shop -> shop.type(code));
    }

    private static void typeReturnsTheLength() {
        CHECK.promise(26, "Returns the new length of the text");
        FishCounter shop = new FishCounter();
        for (int length = 1; length <= 40; length++) {
            CHECK.due("type('0')", shop.type('0'), length);
        }
        shop.clearText();
        for (int length = 1; length <= 80; length++) {
            CHECK.due("type('~'), the text cleared before", shop.type('~'), length);
            shop.type(32);
        }
    }

    private static void typeRefuses() {
        String full = "~".repeat(80);
        CHECK.promise(26, "BAD_VALUE if code is out of range");
        CHECK.badValue("32", Shops::busy, shop -> shop.type(32));
        CHECK.badValue("127", Shops::busy, shop -> shop.type(127));
        CHECK.badValue("0", Shops::busy, shop -> shop.type(0));
        CHECK.badValue("'0' and 65536", Shops::busy, shop -> shop.type('0' + 65536));
        CHECK.badValue("'0' and 256", Shops::busy, shop -> shop.type('0' + 256));
        CHECK.badValue("32, before 80 characters", () -> Shops.withText(full), shop -> shop.type(32));
        CHECK.badValue("127, before 80 characters", () -> Shops.withText(full), shop -> shop.type(127));
        CHECK.promise(26, "LIMIT if the text has 80 characters");
        String delivery = "0:20/0@5" + ";0:1/1@1".repeat(9);
        CHECK.taken("79 characters", () -> Shops.withText(full.substring(1)), shop -> shop.type(126));
        CHECK.limit("80 characters", () -> Shops.withText(full), shop -> shop.type(33));
        CHECK.limit("80 characters of a delivery", () -> Shops.withText(delivery), shop -> shop.type(';'));
        FishCounter shop = Shops.withText(full);
        CHECK.due("80 characters", shop.type('0'), Check.LIMIT);
        CHECK.due("80 characters still", shop.type('0'), Check.LIMIT);
        shop.clearText();
        CHECK.due("none", shop.type('0'), 1);
    }

    private static void clearTextMakesTheTextEmpty() {
        CHECK.promise(27, "Makes the text empty");
        FishCounter shop = Shops.withText("0:5/9@1");
        shop.clearText();
        CHECK.due("syntaxError()", shop.syntaxError(), 0);
        CHECK.due("deliverAll()", shop.deliverAll(), Check.BAD_TEXT);
        CHECK.due("type('0')", shop.type('0'), 1);
        CHECK.due("syntaxError()", shop.syntaxError(), 1);
    }

    private static void clearTextReturnsTheLength() {
        CHECK.promise(27, "Returns the previous length of the text");
        CHECK.due("of the empty text", new FishCounter().clearText(), 0);
        for (int length : new int[] {1, 2, 79, 80}) {
            FishCounter shop = Shops.withText("x".repeat(length));
            CHECK.due("of " + length, shop.clearText(), length);
            CHECK.due("when it is empty", shop.clearText(), 0);
        }
        FishCounter shop = Shops.withText("x".repeat(80));
        shop.type('x');
        CHECK.due("after a refused type()", shop.clearText(), 80);
        Shops.typeText(shop, "0:5/9@1");
        shop.deliverAll();
        CHECK.due("after deliverAll()", shop.clearText(), 0);
    }

    /** Each part of a delivery with each sign behind it. */
    private static void syntaxErrorTellsWhichSignsMayFollow() {
        CHECK.promise(28, "Returns the index of the first character for which no delivery, of any length,"
                + " begins with the characters of the text up to and including this one");
        String digits = "0123456789";
        String[][] partAndSigns = {
            {"", "012345"}, {"0", ":"}, {"3", ":"}, {"5", ":"},
            {"0:", "123456789"},
            {"0:1", digits + "/"}, {"0:2", digits + "/"}, {"0:3", digits + "/"}, {"0:9", digits + "/"},
            {"0:10", digits + "/"}, {"0:19", digits + "/"}, {"0:20", digits + "/"}, {"0:99", digits + "/"},
            {"0:100", digits + "/"}, {"0:199", digits + "/"}, {"0:200", digits + "/"}, {"0:201", digits + "/"},
            {"0:999", digits + "/"}, {"0:1000", digits + "/"}, {"0:1999", digits + "/"}, {"0:2000", "0/"},
            {"0:2001", "/"}, {"0:2010", "/"}, {"0:2100", "/"}, {"0:3000", "/"}, {"0:9999", "/"},
            {"0:10000", "/"}, {"0:19999", "/"}, {"0:20000", "/"},
            {"0:5/", digits}, {"0:5/0", "@"}, {"0:5/1", digits + "@"}, {"0:5/2", digits + "@"},
            {"0:5/9", digits + "@"}, {"0:5/10", "0@"}, {"0:5/11", "@"}, {"0:5/20", "@"}, {"0:5/99", "@"},
            {"0:5/100", "@"},
            {"0:5/9@", "012345"}, {"0:5/9@0", ";"}, {"0:5/9@5", ";"}, {"0:5/9@5;", "012345"},
            {"0:5/9@5;4", ":"}, {"0:5/9@5;4:20000/100@", "012345"}, {"0:5/9@5;4:20000/100@3", ";"},
        };
        for (String[] row : partAndSigns) {
            for (char sign = 33; sign <= 126; sign++) {
                String text = row[0] + sign;
                boolean follows = row[1].indexOf(sign) >= 0;
                boolean ends = row[0].endsWith("@");
                errorOf(text, !follows ? row[0].length() : ends ? Check.NONE : text.length());
            }
        }
    }

    private static void syntaxErrorFindsTheFirstOfSeveral() {
        CHECK.promise(28, "Finds the first syntax error of the text");
        String text = "5:20000/100@5;1:12/34@5";
        for (int i = 0; i < text.length(); i++) {
            errorOf(text.substring(0, i) + "x" + text.substring(i + 1), i);
            errorOf(text.substring(0, i) + "x".repeat(80 - i), i);
        }
        errorOf(";0:1/0@0", 0);
        errorOf("0:5/9@0;;", 8);
        errorOf("0:5/9@0;6:5/9@0;6:5/9@0", 8);
        errorOf("0:5/9@00:5/9@0", 7);
    }

    private static void syntaxErrorOfNumbers() {
        CHECK.promise(28, "Returns the index of the first character for which no delivery, of any length,"
                + " begins with the characters of the text up to and including this one");
        for (int grams = 0; grams <= 30000; grams += grams < 1010 || grams >= 19990 && grams < 20011 ? 1 : 97) {
            String number = Integer.toString(grams);
            int lastOfNumber = 1 + number.length();
            errorOf("3:" + number + "/0@0", grams == 0 ? 2 : grams <= 20000 ? Check.NONE : lastOfNumber);
            errorOf("3:0" + number + "/0@0", 2);
        }
        for (int fresh = 0; fresh <= 1001; fresh++) {
            String number = Integer.toString(fresh);
            int firstTooMany = fresh <= 100 ? Check.NONE : fresh == 1000 || fresh == 1001 ? 7 : 6;
            errorOf("3:5/" + number + "@0", firstTooMany);
            errorOf("3:5/0" + number + "@0", 5);
        }
        errorOf("3:100000/0@0", 7);
        errorOf("3:200000/0@0", 7);
        errorOf("3:99999999999999999999/0@0", 6);
        errorOf("3:5/99999999999999999999@0", 6);
        errorOf("3:4294967297/0@0", 6);
    }

    private static void syntaxErrorOfUnfinishedTexts() {
        CHECK.promise(28, "the length of the text if there is no such character but the text is not a delivery"
                + " (this holds for the empty text)");
        errorOf("", 0);
        String text = "5:20000/100@5;1:12/34@5;";
        for (int length = 0; length <= text.length(); length++) {
            String part = text.substring(0, length);
            errorOf(part, part.endsWith("@5") ? Check.NONE : length);
        }
    }

    private static void syntaxErrorOfFullTexts() {
        CHECK.promise(28, "no delivery, of any length, begins with");
        String[] tails = {"", "0", "0:", "0:5", "0:20000", "0:200/", "0:200/10", "0:20/10@"};
        for (String tail : tails) {
            errorOf(fullText(tail), 80);
        }
        errorOf(fullText("0:20/0@5"), Check.NONE);
        errorOf(fullText("0:20/0@6"), 79);
        errorOf("~".repeat(80), 0);
        errorOf("0".repeat(80), 1);
        errorOf("3:" + "1".repeat(78), 7);
    }

    /** Nine items and the tail, with so many digits that it has 80 characters. */
    private static String fullText(String tail) {
        StringBuilder text = new StringBuilder();
        int spare = 80 - 9 * 8 - tail.length();
        for (int item = 0; item < 9; item++) {
            int more = Math.min(4, spare);
            text.append("0:1").append("0".repeat(more)).append("/0@0;");
            spare -= more;
        }
        return text.append(tail).toString();
    }

    private static void syntaxErrorOfDeliveries() {
        CHECK.promise(28, "NONE if the text is a delivery");
        String[] texts = {
            "0:1/0@0", "5:20000/100@5", "3:9/9@4", "1:10/10@1", "2:19999/99@2", "0:2000/90@3",
            "0:1/0@0;5:20000/100@5", "0:1/0@0;0:1/0@0;0:1/0@0", "0:20/0@0" + ";0:1/0@0".repeat(9),
            "0:1/0@0" + ";0:1/0@0".repeat(9),
        };
        for (String text : texts) {
            errorOf(text, Check.NONE);
        }
        for (int kind = 0; kind < 6; kind++) {
            for (int box = 0; box < 6; box++) {
                errorOf(kind + ":20000/100@" + box, Check.NONE);
            }
        }
    }

    private static void syntaxErrorReadsNoClearedSigns() {
        CHECK.promise(28, "Finds the first syntax error of the text");
        String text = "0:5/9@1;1:6/8@2";
        for (int length = 0; length <= text.length(); length++) {
            FishCounter shop = Shops.withText(text);
            shop.clearText();
            Shops.typeText(shop, text.substring(0, length));
            boolean isDelivery = length == 7 || length == text.length();
            CHECK.due("after a longer text, of " + length, shop.syntaxError(), isDelivery ? Check.NONE : length);
        }
    }

    private static void textCallsSaveNothing() {
        CHECK.terms("The state is everything except the text and the saved states");
        FishCounter shop = new FishCounter();
        shop.iceBox(0, 1);
        long before = shop.digest();
        Shops.typeText(shop, "0:5/9@1");
        CHECK.due("digest() after type()", shop.digest(), before);
        CHECK.due("undo(): type() saved nothing", shop.undo(), 0);
        CHECK.due("the text stays", shop.syntaxError(), Check.NONE);
        CHECK.due("clearText()", shop.clearText(), 7);
        CHECK.due("undo(): clearText() saved nothing", shop.undo(), Check.NOT_POSSIBLE);
        CHECK.due("the text stays empty", shop.clearText(), 0);
        CHECK.promise(28, "Finds the first syntax error of the text");
        for (String text : new String[] {"", "0:5/9@", "0:5/9@1", "0:5/9@7"}) {
            CHECK.changesNothing("syntaxError() of " + text, () -> Shops.withText(text), made -> made.syntaxError());
        }
        CHECK.changesNothing("syntaxError() in a busy shop", Shops::busy, made -> made.syntaxError());
    }
}
