/** Promises 26 to 29: type, clearText, syntaxError, deliverAll. */
public final class TextTest {
    private static final int MIN = Integer.MIN_VALUE;
    private static final int MAX = Integer.MAX_VALUE;
    private static final Check CHECK = new Check("TextTest");

    public static void main(String[] args) {
        typeAppends();
        typeRefuses();
        clearTextEmpties();
        textIsNoPartOfTheState();
        deliveriesHaveNoError();
        unfinishedTextsEndTooEarly();
        clearedSignsAreNotRead();
        errorsAreFoundWhereTheyAre();
        deliverAllTakesTheLots();
        deliverAllStopsAtAFullBox();
        deliverAllStopsAtTheLimit();
        deliverAllSavesOneState();
        deliverAllRefuses();
        CHECK.finish();
    }

    private static void typeText(FishCounter shop, String text) {
        shop.clearText();
        for (int i = 0; i < text.length(); i++) {
            CHECK.due("type in " + text, shop.type(text.charAt(i)), i + 1);
        }
    }

    private static void errorOf(String text, int want) {
        FishCounter shop = new FishCounter();
        typeText(shop, text);
        CHECK.due("syntaxError() of " + text, shop.syntaxError(), want);
        CHECK.due("the text stays: " + text, shop.clearText(), text.length());
    }

    private static void typeAppends() {
        FishCounter shop = new FishCounter();
        CHECK.due("type(33)", shop.type(33), 1);
        CHECK.due("type(126)", shop.type(126), 2);
        for (int length = 3; length <= 80; length++) {
            CHECK.due("type(48)", shop.type(48), length);
        }
        CHECK.due("type(48), 80 characters", shop.type(48), -4);
        CHECK.due("type(32), BAD_VALUE first", shop.type(32), -2);
        CHECK.due("clearText()", shop.clearText(), 80);
        CHECK.due("type(48)", shop.type(48), 1);
    }

    private static void typeRefuses() {
        FishCounter shop = new FishCounter();
        for (int code : new int[] {32, 127, 0, -1, 65536 + 48, MIN, MAX}) {
            CHECK.due("type(" + code + ")", shop.type(code), -2);
        }
        CHECK.due("clearText()", shop.clearText(), 0);
    }

    private static void clearTextEmpties() {
        FishCounter shop = new FishCounter();
        typeText(shop, "0:5/9@1");
        CHECK.due("clearText()", shop.clearText(), 7);
        CHECK.due("clearText()", shop.clearText(), 0);
        CHECK.due("syntaxError()", shop.syntaxError(), 0);
    }

    private static void textIsNoPartOfTheState() {
        FishCounter shop = new FishCounter();
        shop.iceBox(0, 1);
        long before = shop.digest();
        typeText(shop, "0:5/9@1");
        CHECK.sameState("type", shop, before);
        CHECK.due("undo(), type saves nothing", shop.undo(), 0);
        CHECK.due("the text stays", shop.syntaxError(), -6);
        CHECK.due("clearText()", shop.clearText(), 7);
        CHECK.due("undo(), clearText saves nothing", shop.undo(), -3);
    }

    private static void deliveriesHaveNoError() {
        String[] texts = {
            "0:1/0@0", "5:20000/100@5", "3:9/9@4", "1:10/10@1", "2:19999/99@2", "0:2000/90@3",
            "0:1/0@0;5:20000/100@5", "0:1/0@0;0:1/0@0;0:1/0@0",
            "0:1/0@0;0:1/0@0;0:1/0@0;0:1/0@0;0:1/0@0;0:1/0@0;0:1/0@0;0:1/0@0;0:1/0@0;0:1/0@0",
            "0:20/0@0;0:1/0@0;0:1/0@0;0:1/0@0;0:1/0@0;0:1/0@0;0:1/0@0;0:1/0@0;0:1/0@0;0:1/0@0",
        };
        for (String text : texts) {
            errorOf(text, -6);
        }
    }

    private static void unfinishedTextsEndTooEarly() {
        String text = "5:20000/100@5;1:12/34@5;";
        for (int length = 0; length <= text.length(); length++) {
            String part = text.substring(0, length);
            errorOf(part, part.endsWith("@5") ? -6 : length);
        }
        for (String tail : new String[] {"", "0", "0:", "0:5", "0:20000", "0:200/", "0:200/10", "0:20/10@"}) {
            errorOf(fullText(tail), 80);
        }
        errorOf(fullText("0:20/0@5"), -6);
        errorOf(fullText("0:20/0@6"), 79);
    }

    /** Nine items and the tail, with so many digits that it has 80 characters. */
    private static String fullText(String tail) {
        StringBuilder text = new StringBuilder();
        int spare = 80 - 9 * 8 - tail.length();
        for (int item = 0; item < 9; item++) {
            int more = Math.min(4, spare);
            text.append("0:1").append("0".repeat(more)).append("/0@0;");
            spare -= more;
        }
        return text.append(tail).toString();
    }

    private static void clearedSignsAreNotRead() {
        FishCounter shop = new FishCounter();
        typeText(shop, "0:5/9@1;1:6/8@2");
        for (String part : new String[] {"0", "0:", "0:5", "0:5/", "0:5/9", "0:5/9@", "0:5/9@1;"}) {
            typeText(shop, part);
            CHECK.due("syntaxError() of " + part, shop.syntaxError(), part.length());
            CHECK.due("deliverAll() of " + part, shop.deliverAll(), -5);
        }
        typeText(shop, "0:5/9@1");
        CHECK.due("deliverAll()", shop.deliverAll(), 1);
        CHECK.due("lots", shop.count(2), 1);
    }

    private static void errorsAreFoundWhereTheyAre() {
        errorOf("6", 0);
        errorOf(":", 0);
        errorOf("/", 0);
        errorOf(";0:1/0@0", 0);
        errorOf("00", 1);
        errorOf("0;", 1);
        errorOf("0:0", 2);
        errorOf("0:01/0@0", 2);
        errorOf("0:/", 2);
        errorOf("0:20001", 6);
        errorOf("0:20010", 6);
        errorOf("0:21000", 6);
        errorOf("0:20100", 6);
        errorOf("0:30000", 6);
        errorOf("0:2001", 6);
        errorOf("0:99999", 6);
        errorOf("0:100000", 7);
        errorOf("0:5:", 3);
        errorOf("0:5@", 3);
        errorOf("0:5//", 4);
        errorOf("0:5/@", 4);
        errorOf("0:5/00", 5);
        errorOf("0:5/01", 5);
        errorOf("0:5/101", 6);
        errorOf("0:5/110", 6);
        errorOf("0:5/200", 6);
        errorOf("0:5/1000", 7);
        errorOf("0:5/9/", 5);
        errorOf("0:5/9@6", 6);
        errorOf("0:5/9@@", 6);
        errorOf("0:5/9@00", 7);
        errorOf("0:5/9@0:", 7);
        errorOf("0:5/9@0;;", 8);
        errorOf("0:5/9@0;6:5/9@0", 8);
        errorOf("0:5/9@0;0:5/9@0;0:5/9@9~", 22);
        errorOf("!", 0);
        errorOf("0~", 1);
    }

    private static void deliverAllTakesTheLots() {
        FishCounter shop = new FishCounter();
        typeText(shop, "5:20000/100@5;0:1/0@0;2:2499/77@5");
        CHECK.due("deliverAll()", shop.deliverAll(), 3);
        int[][] due = {{5, 20000, 100, 5}, {0, 1, 0, 0}, {2, 2499, 77, 5}};
        for (int lot = 1; lot <= 3; lot++) {
            for (int what = 0; what < 4; what++) {
                CHECK.due("lot(" + lot + ", " + what + ")", shop.lot(lot, what), due[lot - 1][what]);
            }
        }
        CHECK.due("came", shop.count(4), 22500);
        CHECK.due("paid, each lot by itself", shop.count(7), 18000 + 0 + 1499);
        CHECK.due("the text is empty", shop.clearText(), 0);
        CHECK.due("undo()", shop.undo(), 0);
        CHECK.due("lots", shop.count(2), 0);
        CHECK.due("the text stays empty", shop.clearText(), 0);
        CHECK.due("the numbers come back", shop.deliver(0, 1, 1, 0), 1);
    }

    private static void deliverAllStopsAtAFullBox() {
        FishCounter shop = new FishCounter();
        shop.deliver(0, 1, 1, 4);
        shop.deliver(0, 1, 1, 4);
        typeText(shop, "1:10/50@4;1:11/50@4;1:12/50@3");
        CHECK.due("deliverAll()", shop.deliverAll(), 1);
        CHECK.due("lots", shop.count(2), 3);
        CHECK.due("came", shop.count(4), 12);
        CHECK.due("the one behind is not taken", shop.box(3, 1), 0);
        CHECK.due("the text is empty", shop.clearText(), 0);
    }

    private static void deliverAllStopsAtTheLimit() {
        FishCounter shop = new FishCounter();
        for (int i = 0; i < 14; i++) {
            shop.deliver(0, 1, 1, i / 3);
        }
        typeText(shop, "1:1/1@4;1:1/1@5;1:1/1@5;1:1/1@5");
        CHECK.due("deliverAll()", shop.deliverAll(), 2);
        CHECK.due("lots", shop.count(2), 16);
        typeText(shop, "1:1/1@5");
        CHECK.due("deliverAll(), none is taken", shop.deliverAll(), 0);
        CHECK.due("the text is empty", shop.clearText(), 0);
        CHECK.due("undo(), a state was saved", shop.undo(), 5);
        CHECK.due("lots", shop.count(2), 16);
        CHECK.due("undo()", shop.undo(), 4);
        CHECK.due("lots", shop.count(2), 14);
    }

    private static void deliverAllSavesOneState() {
        FishCounter shop = new FishCounter();
        shop.iceBox(0, 1);
        typeText(shop, "0:1/1@0;0:1/1@1;0:1/1@2;0:1/1@3;0:1/1@4;0:1/1@5;0:1/1@0;0:1/1@1");
        CHECK.due("deliverAll()", shop.deliverAll(), 8);
        CHECK.due("undo()", shop.undo(), 1);
        CHECK.due("lots", shop.count(2), 0);
        CHECK.due("box(0, 0)", shop.box(0, 0), 1);
        CHECK.due("undo()", shop.undo(), 0);
    }

    private static void deliverAllRefuses() {
        FishCounter shop = new FishCounter();
        long before = shop.digest();
        CHECK.due("deliverAll(), empty", shop.deliverAll(), -5);
        for (String text : new String[] {"0:1/1@0;", "0:1/1@0;0", "0:0/1@0", "0:1/1@0x", "0:1/1"}) {
            typeText(shop, text);
            CHECK.due("deliverAll() of " + text, shop.deliverAll(), -5);
            CHECK.due("the text stays: " + text, shop.clearText(), text.length());
        }
        CHECK.sameState("deliverAll refused", shop, before);
        CHECK.due("undo()", shop.undo(), -3);
    }
}
