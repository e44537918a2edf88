import java.util.List;

/** Promises 1 to 4: a new object, setPrice, setCut, setMelting. */
public final class SettingsTest {
    private static final Check CHECK = new Check("SettingsTest");

    public static void main(String[] args) {
        newShopIsEmpty();
        newShopsShareNothing();
        setPriceChangesOneKind();
        setPriceTakesItsRanges();
        setPriceReturnsThePreviousPrice();
        setPriceRefuses();
        setCutChangesOneHour();
        setCutTakesItsRanges();
        setCutReturnsThePreviousCut();
        setCutRefuses();
        setMeltingChangesBoth();
        setMeltingTakesItsRanges();
        setMeltingReturnsThePreviousLimit();
        setMeltingRefuses();
        settingsAreUndoable();
        CHECK.finish();
    }

    private static void newShopIsEmpty() {
        CHECK.promise(1, "Creates a shop without fish and ice");
        FishCounter shop = new FishCounter();
        for (int what = 0; what <= 8; what++) {
            CHECK.due("count(" + what + ")", shop.count(what), 0);
        }
        for (int lot = 0; lot <= 17; lot++) {
            CHECK.due("lot(" + lot + ", 0)", shop.lot(lot, 0), Check.NO_SUCH);
        }
        for (int box = 0; box < 6; box++) {
            int[] due = {0, 0, 0, Check.NONE};
            for (int what = 0; what < 4; what++) {
                CHECK.due("box(" + box + ", " + what + ")", shop.box(box, what), due[what]);
            }
        }
        for (int tray = 0; tray < 5; tray++) {
            CHECK.due("tray(" + tray + ", 0)", shop.tray(tray, 0), 0);
            CHECK.due("tray(" + tray + ", 1)", shop.tray(tray, 1), Check.NONE);
        }
        for (int kind = 0; kind < 6; kind++) {
            CHECK.due("kind(" + kind + ", 2)", shop.kind(kind, 2), 0);
            CHECK.due("kind(" + kind + ", 3)", shop.kind(kind, 3), Check.NONE);
        }
        CHECK.due("worth()", shop.worth(), 0);
        CHECK.due("ifClosed(10)", shop.ifClosed(10), 0);
        CHECK.due("undo()", shop.undo(), Check.NOT_POSSIBLE);
        CHECK.due("clearText()", shop.clearText(), 0);
        CHECK.due("the first lot", shop.deliver(0, 1, 0, 0), 1);
    }

    private static void newShopsShareNothing() {
        CHECK.promise(1, "Creates a shop without fish and ice");
        List<String> alone = Answers.asked(new FishCounter());
        FishCounter madeBefore = new FishCounter();
        Shops.busy().close();
        Shops.full().close();
        CHECK.same("beside others", Answers.asked(madeBefore), alone);
        CHECK.same("after others", Answers.asked(new FishCounter()), alone);
    }

    private static void setPriceChangesOneKind() {
        CHECK.promise(2, "Changes the price and the cost of a kind");
        for (int kind = 0; kind < 6; kind++) {
            FishCounter shop = new FishCounter();
            shop.setPrice(kind, 9999, 1);
            for (int other = 0; other < 6; other++) {
                CHECK.due("price of " + other, shop.kind(other, 0), other == kind ? 9999 : 1000 + 200 * other);
                CHECK.due("cost of " + other, shop.kind(other, 1), other == kind ? 1 : 400 + 100 * other);
            }
        }
        FishCounter shop = Shops.withLot(0, 1000, 100);
        shop.setPrice(0, 1, 9999);
        CHECK.due("the price of a lot that is there", shop.lot(1, 5), 1);
        CHECK.due("what was paid for it", shop.count(7), 400);
        shop.deliver(0, 1000, 100, 0);
        CHECK.due("what was paid, with the next lot", shop.count(7), 400 + 9999);
    }

    private static void setPriceTakesItsRanges() {
        CHECK.promise(2, "`kind`: 0 to 5");
        CHECK.rangeElseNoSuch(0, 5, Shops::busy, kind -> shop -> shop.setPrice(kind, 500, 400));
        CHECK.promise(2, "`price`: 1 to 9999");
        CHECK.rangeElseBadValue(1, 9999, Shops::busy, price -> shop -> shop.setPrice(1, price, 400));
        CHECK.promise(2, "`cost`: 1 to 9999");
        CHECK.rangeElseBadValue(1, 9999, Shops::busy, cost -> shop -> shop.setPrice(1, 500, cost));
    }

    private static void setPriceReturnsThePreviousPrice() {
        CHECK.promise(2, "Returns the previous price");
        FishCounter shop = new FishCounter();
        CHECK.due("the first time", shop.setPrice(5, 9999, 1), 2000);
        CHECK.due("the second time", shop.setPrice(5, 1, 9999), 9999);
        CHECK.due("the third time", shop.setPrice(5, 1, 1), 1);
        CHECK.due("with the price that it has", shop.setPrice(5, 1, 1), 1);
        CHECK.due("another kind", shop.setPrice(4, 1, 1), 1800);
        shop.setPrice(5, 10000, 1);
        CHECK.due("after a refused one", shop.setPrice(5, 7, 7), 1);
        shop.undo();
        CHECK.due("after undo()", shop.setPrice(5, 8, 8), 1);
    }

    private static void setPriceRefuses() {
        CHECK.promise(2, "NO_SUCH if there is no such kind");
        CHECK.noSuch("kind 6", Shops::busy, shop -> shop.setPrice(6, 1, 1));
        CHECK.noSuch("kind 6, price 0", Shops::busy, shop -> shop.setPrice(6, 0, 1));
        CHECK.noSuch("kind -1, cost 10000", Shops::busy, shop -> shop.setPrice(-1, 1, 10000));
        CHECK.noSuch("kind -1, all wrong", Shops::busy, shop -> shop.setPrice(-1, 10000, 0));
        CHECK.promise(2, "BAD_VALUE if price or cost is out of range");
        CHECK.badValue("price 0", Shops::busy, shop -> shop.setPrice(5, 0, 9999));
        CHECK.badValue("price 10000", Shops::busy, shop -> shop.setPrice(0, 10000, 1));
        CHECK.badValue("cost 0", Shops::busy, shop -> shop.setPrice(0, 9999, 0));
        CHECK.badValue("cost 10000", Shops::busy, shop -> shop.setPrice(5, 1, 10000));
        CHECK.badValue("both", Shops::busy, shop -> shop.setPrice(5, 0, 10000));
    }

    private static void setCutChangesOneHour() {
        CHECK.promise(3, "Changes the cut of an hour");
        for (int hour = 0; hour <= 10; hour++) {
            FishCounter shop = new FishCounter();
            shop.setCut(hour, 90);
            for (int other = 0; other <= 10; other++) {
                CHECK.due("cut(" + other + ")", shop.cut(other), other == hour ? 90 : 0);
            }
        }
        FishCounter shop = Shops.withLot(0, 1000, 100);
        shop.setMelting(0, 30);
        shop.iceBox(0, 1);
        shop.setCut(1, 50);
        CHECK.due("the price in the hour before", shop.lot(1, 5), 1000);
        shop.pass();
        CHECK.due("the price in the hour", shop.lot(1, 5), 495);
        shop.pass();
        CHECK.due("the price in the hour after", shop.lot(1, 5), 990);
        shop.setCut(2, 90);
        CHECK.due("the price in the current hour", shop.lot(1, 5), 99);
        shop.setCut(2, 0);
        CHECK.due("the price without a cut", shop.lot(1, 5), 990);
    }

    private static void setCutTakesItsRanges() {
        CHECK.promise(3, "`hour`: 0 to 10");
        CHECK.rangeElseNoSuch(0, 10, Shops::busy, hour -> shop -> shop.setCut(hour, 5));
        CHECK.promise(3, "`percent`: 0 to 90");
        CHECK.rangeElseBadValue(0, 90, Shops::busy, percent -> shop -> shop.setCut(2, percent));
    }

    private static void setCutReturnsThePreviousCut() {
        CHECK.promise(3, "Returns the previous cut");
        FishCounter shop = new FishCounter();
        CHECK.due("the first time", shop.setCut(10, 90), 0);
        CHECK.due("the second time", shop.setCut(10, 0), 90);
        CHECK.due("the third time", shop.setCut(10, 1), 0);
        CHECK.due("with the cut that it has", shop.setCut(10, 1), 1);
        CHECK.due("another hour", shop.setCut(9, 1), 0);
        shop.setCut(10, 91);
        CHECK.due("after a refused one", shop.setCut(10, 7), 1);
        shop.undo();
        CHECK.due("after undo()", shop.setCut(10, 8), 1);
    }

    private static void setCutRefuses() {
        CHECK.promise(3, "NO_SUCH if there is no such hour");
        CHECK.noSuch("hour 11", Shops::busy, shop -> shop.setCut(11, 1));
        CHECK.noSuch("hour -1", Shops::busy, shop -> shop.setCut(-1, 1));
        CHECK.noSuch("hour 11, percent 91", Shops::busy, shop -> shop.setCut(11, 91));
        CHECK.noSuch("hour -1, percent -1", Shops::busy, shop -> shop.setCut(-1, -1));
        CHECK.promise(3, "BAD_VALUE if percent is out of range");
        CHECK.badValue("percent 91", Shops::busy, shop -> shop.setCut(0, 91));
        CHECK.badValue("percent -1", Shops::busy, shop -> shop.setCut(10, -1));
        CHECK.badValue("percent 100", Shops::busy, shop -> shop.setCut(2, 100));
    }

    private static void setMeltingChangesBoth() {
        CHECK.promise(4, "Changes the melting and the limit");
        FishCounter shop = new FishCounter();
        shop.iceBox(0, 5000);
        shop.iceTray(0, 5000);
        shop.setMelting(500, 100);
        CHECK.due("count(9)", shop.count(9), 500);
        CHECK.due("count(10)", shop.count(10), 100);
        shop.pass();
        CHECK.due("ice in a box, melting 500", shop.box(0, 0), 4500);
        CHECK.due("ice on a tray, melting 500", shop.tray(0, 0), 4000);
        shop.setMelting(0, 0);
        CHECK.due("count(9)", shop.count(9), 0);
        CHECK.due("count(10)", shop.count(10), 0);
        shop.pass();
        CHECK.due("ice in a box, melting 0", shop.box(0, 0), 4500);
        CHECK.due("ice on a tray, melting 0", shop.tray(0, 0), 4000);
        shop.deliver(0, 10, 0, 0);
        CHECK.due("limit 0: all is sold", shop.ifClosed(0), 0);
        shop.deliver(0, 3, 99, 0);
        shop.deliver(0, 7, 100, 0);
        shop.setMelting(0, 100);
        CHECK.due("limit 100: only the freshest is", shop.ifClosed(0), 13);
    }

    private static void setMeltingTakesItsRanges() {
        CHECK.promise(4, "`melting`: 0 to 500");
        CHECK.rangeElseBadValue(0, 500, Shops::busy, melting -> shop -> shop.setMelting(melting, 50));
        CHECK.promise(4, "`limit`: 0 to 100");
        CHECK.rangeElseBadValue(0, 100, Shops::busy, limit -> shop -> shop.setMelting(50, limit));
    }

    private static void setMeltingReturnsThePreviousLimit() {
        CHECK.promise(4, "Returns the previous limit");
        FishCounter shop = new FishCounter();
        CHECK.due("the first time", shop.setMelting(500, 100), 30);
        CHECK.due("the second time", shop.setMelting(1, 0), 100);
        CHECK.due("the third time", shop.setMelting(2, 7), 0);
        CHECK.due("with what there is", shop.setMelting(2, 7), 7);
        shop.setMelting(2, 101);
        CHECK.due("after a refused one", shop.setMelting(3, 8), 7);
        shop.undo();
        CHECK.due("after undo()", shop.setMelting(3, 9), 7);
    }

    private static void setMeltingRefuses() {
        CHECK.promise(4, "BAD_VALUE if melting or limit is out of range");
        CHECK.badValue("melting 501", Shops::busy, shop -> shop.setMelting(501, 100));
        CHECK.badValue("melting -1", Shops::busy, shop -> shop.setMelting(-1, 0));
        CHECK.badValue("limit 101", Shops::busy, shop -> shop.setMelting(500, 101));
        CHECK.badValue("limit -1", Shops::busy, shop -> shop.setMelting(0, -1));
        CHECK.badValue("both", Shops::busy, shop -> shop.setMelting(501, 101));
    }

    private static void settingsAreUndoable() {
        CHECK.promise(2, "Undoable");
        for (int i = 0; i < 6; i++) {
            int kind = i;
            CHECK.undone("setPrice", Shops::stocked, shop -> shop.setPrice(kind, 77, 77));
            CHECK.undone("setPrice as it is", Shops::stocked, shop -> shop.setPrice(kind, 1000 + 200 * kind, 77));
            CHECK.undone("setPrice in a new shop", FishCounter::new, shop -> shop.setPrice(kind, 9999, 9999));
        }
        CHECK.promise(3, "Undoable");
        for (int i = 0; i <= 10; i++) {
            int hour = i;
            CHECK.undone("setCut", Shops::stocked, shop -> shop.setCut(hour, 77));
            CHECK.undone("setCut as it is", Shops::stocked, shop -> shop.setCut(hour, 0));
        }
        CHECK.promise(4, "Undoable");
        CHECK.undone("setMelting", Shops::stocked, shop -> shop.setMelting(0, 100));
        CHECK.undone("setMelting as it is", Shops::stocked, shop -> shop.setMelting(100, 30));
        CHECK.undone("setMelting in a new shop", FishCounter::new, shop -> shop.setMelting(500, 0));
    }
}
