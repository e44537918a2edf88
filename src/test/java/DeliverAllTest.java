/** Promise 29: deliverAll. */
public final class DeliverAllTest {
    private static final Check CHECK = new Check("DeliverAllTest");

    public static void main(String[] args) {
        takesTheLotsFromLeftToRight();
        takesWhatDeliverWouldTake();
        stopsAtAFullBox();
        stopsAtTheSixteenthLot();
        makesTheTextEmpty();
        savesOneState();
        returnsTheNumberOfLots();
        refusesWhatIsNoDelivery();
        CHECK.finish();
    }

    private static void takesTheLotsFromLeftToRight() {
        CHECK.promise(29, "Takes the lots of the text, from left to right, up to the first one"
                + " for which deliver() would return an error code, and makes the text empty");
        FishCounter shop = Shops.withText("5:20000/100@5;0:1/0@0;2:2499/77@5");
        shop.deliverAll();
        int[][] due = {{5, 20000, 100, 5, -6, 2000}, {0, 1, 0, 0, -6, 500}, {2, 2499, 77, 5, -6, 1232}};
        for (int lot = 1; lot <= 3; lot++) {
            for (int what = 0; what < 6; what++) {
                CHECK.due("lot(" + lot + ", " + what + ")", shop.lot(lot, what), due[lot - 1][what]);
            }
        }
        CHECK.due("came", shop.count(4), 22500);
        CHECK.due("paid, each lot by itself", shop.count(7), 18000 + 0 + 1499);
        CHECK.due("the next number", shop.deliver(0, 1, 1, 0), 4);
    }

    private static void takesWhatDeliverWouldTake() {
        CHECK.promise(29, "up to the first one for which deliver() would return an error code");
        String text = "0:1/0@0";
        for (int i = 1; i < 10; i++) {
            text += ";" + i % 6 + ":" + i + "/" + i + "@" + i % 5;
        }
        FishCounter byText = Shops.withText(text);
        FishCounter byCalls = new FishCounter();
        byText.deliverAll();
        byCalls.deliver(0, 1, 0, 0);
        for (int i = 1; i < 10; i++) {
            byCalls.deliver(i % 6, i, i, i % 5);
        }
        CHECK.due("lots", byText.count(2), 10);
        CHECK.same("by text", Answers.asked(byText), Answers.asked(byCalls));
    }

    private static void stopsAtAFullBox() {
        CHECK.promise(29, "up to the first one for which deliver() would return an error code");
        for (int before = 0; before <= 3; before++) {
            FishCounter shop = new FishCounter();
            for (int i = 0; i < before; i++) {
                shop.deliver(0, 1, 1, 4);
            }
            Shops.typeText(shop, "1:10/50@4;1:11/50@4;1:12/50@4;1:13/50@4;1:14/50@3");
            CHECK.due("into a box with " + before, shop.deliverAll(), 3 - before);
            CHECK.due("lots in the box", shop.box(4, 1), 3);
            CHECK.due("the one behind is not taken", shop.box(3, 1), 0);
            CHECK.due("the next number", shop.deliver(0, 1, 1, 0), 4);
        }
    }

    private static void stopsAtTheSixteenthLot() {
        CHECK.promise(29, "up to the first one for which deliver() would return an error code");
        for (int before = 13; before <= 16; before++) {
            FishCounter shop = Shops.full();
            for (int lot = 16; lot > before; lot--) {
                shop.throwAway(lot);
            }
            shop.toTray(1, 0);
            Shops.typeText(shop, "1:1/1@5;1:2/1@5;1:3/1@0;1:4/1@4");
            CHECK.due("with " + before + " lots", shop.deliverAll(), 16 - before);
            CHECK.due("lots", shop.count(2), 16);
            CHECK.due("grams that came by text", shop.count(4) - 1360, new int[] {6, 3, 1, 0}[before - 13]);
            CHECK.due("a seventeenth lot", shop.divide(2, 1, 5), Check.LIMIT);
        }
    }

    private static void makesTheTextEmpty() {
        CHECK.promise(29, "and makes the text empty");
        FishCounter shop = Shops.withText("0:1/1@0");
        CHECK.due("one lot", shop.deliverAll(), 1);
        CHECK.due("its text is gone", shop.clearText(), 0);
        CHECK.due("syntaxError()", shop.syntaxError(), 0);
        CHECK.due("deliverAll() once more", shop.deliverAll(), Check.BAD_TEXT);
        Shops.typeText(shop, "0:20/0@5" + ";0:1/1@1".repeat(9));
        CHECK.due("a full text, four of whose lots are taken", shop.deliverAll(), 4);
        CHECK.due("its text is gone, too", shop.clearText(), 0);
        Shops.typeText(shop, "0:1/1@1;0:1/1@2");
        CHECK.due("no lot is taken", shop.deliverAll(), 0);
        CHECK.due("its text is gone all the same", shop.type('0'), 1);
    }

    private static void savesOneState() {
        CHECK.promise(29, "One state is saved for the whole call, also if no lot is taken");
        FishCounter shop = new FishCounter();
        shop.iceBox(0, 1);
        Shops.typeText(shop, "0:1/1@0;0:1/1@1;0:1/1@2;0:1/1@3;0:1/1@4;0:1/1@5;0:1/1@0;0:1/1@1");
        CHECK.due("deliverAll() of eight", shop.deliverAll(), 8);
        CHECK.due("undo()", shop.undo(), 1);
        CHECK.due("lots", shop.count(2), 0);
        CHECK.due("box(0, 0)", shop.box(0, 0), 1);
        CHECK.due("the text stays empty", shop.clearText(), 0);
        CHECK.due("the numbers come back", shop.deliver(0, 1, 1, 0), 1);
        FishCounter full = Shops.withFullBox();
        Shops.typeText(full, "0:1/1@0;0:1/1@1");
        CHECK.due("deliverAll() of none", full.deliverAll(), 0);
        CHECK.due("undo()", full.undo(), 4);
        CHECK.due("lots", full.count(2), 4);
        CHECK.due("undo()", full.undo(), 3);
        CHECK.due("lots", full.count(2), 3);
        CHECK.promise(29, "Undoable");
        CHECK.undone("deliverAll", () -> Shops.withText("0:1/1@0;5:20000/100@5"), made -> made.deliverAll());
        CHECK.undone("deliverAll beside other lots", Shops::stocked, made -> made.deliverAll());
    }

    private static void returnsTheNumberOfLots() {
        CHECK.promise(29, "Returns the number of lots that are taken");
        for (int items = 1; items <= 10; items++) {
            StringBuilder text = new StringBuilder("0:1/1@0");
            for (int i = 1; i < items; i++) {
                text.append(";1:1/1@").append(i % 6);
            }
            FishCounter shop = Shops.withText(text.toString());
            CHECK.due("of " + items, shop.deliverAll(), items);
            CHECK.due("lots", shop.count(2), items);
        }
    }

    private static void refusesWhatIsNoDelivery() {
        CHECK.promise(29, "BAD_TEXT if the text is not a delivery (then the text stays)");
        CHECK.badText("the empty text", FishCounter::new, shop -> shop.deliverAll());
        String[] texts = {"0", "0:1/1", "0:1/1@", "0:1/1@0;", "0:1/1@0;0", "0:1/1@0;0:1/1@0;", "0:0/1@0", "6:1/1@0",
            "0:20001/1@0", "0:1/101@0", "0:1/1@6", "0:1/1@0x", "0:01/1@0", "0:1/01@0", "0:1/1@0;;0:1/1@0",
            "0:1/1@0;0:1/1@6", "0:20/0@5" + ";0:1/1@1".repeat(8) + ";0:1/1@", "~".repeat(80)};
        for (String text : texts) {
            CHECK.badText(text, () -> Shops.withText(text), shop -> shop.deliverAll());
            FishCounter shop = Shops.withText(text);
            shop.deliverAll();
            CHECK.due("the text stays: " + text, shop.clearText(), text.length());
        }
        CHECK.badText("with sixteen lots", Shops::full, shop -> shop.deliverAll());
        CHECK.badText("a finished text that was cleared", () -> {
            FishCounter shop = Shops.withText("0:1/1@0");
            shop.clearText();
            Shops.typeText(shop, "0:1/1@");
            return shop;
        }, shop -> shop.deliverAll());
    }
}
