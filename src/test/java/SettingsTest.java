/** Promises 1 to 4: a new object, setPrice, setCut, setMelting. */
public final class SettingsTest {
    private static final int MIN = Integer.MIN_VALUE;
    private static final int MAX = Integer.MAX_VALUE;
    private static final Check CHECK = new Check("SettingsTest");

    public static void main(String[] args) {
        newShopHasNoFishAndNoIce();
        newShopHasTheFirstSettings();
        setPriceChangesPriceAndCost();
        setPriceRefuses();
        setCutChangesOneHour();
        setCutRefuses();
        setMeltingChangesMeltingAndLimit();
        setMeltingRefuses();
        CHECK.finish();
    }

    private static void newShopHasNoFishAndNoIce() {
        FishCounter shop = new FishCounter();
        for (int what = 0; what <= 8; what++) {
            CHECK.due("new: count(" + what + ")", shop.count(what), 0);
        }
        for (int box = 0; box < 6; box++) {
            CHECK.due("new: box(.., 0)", shop.box(box, 0), 0);
            CHECK.due("new: box(.., 1)", shop.box(box, 1), 0);
            CHECK.due("new: box(.., 2)", shop.box(box, 2), 0);
            CHECK.due("new: box(.., 3)", shop.box(box, 3), -6);
        }
        for (int tray = 0; tray < 5; tray++) {
            CHECK.due("new: tray(.., 0)", shop.tray(tray, 0), 0);
            CHECK.due("new: tray(.., 1)", shop.tray(tray, 1), -6);
        }
        CHECK.due("new: worth()", shop.worth(), 0);
        CHECK.due("new: clearText()", shop.clearText(), 0);
        CHECK.due("new: undo()", shop.undo(), -3);
        CHECK.due("new: deliver", shop.deliver(0, 1, 0, 0), 1);
    }

    private static void newShopHasTheFirstSettings() {
        FishCounter shop = new FishCounter();
        CHECK.due("new: melting", shop.count(9), 100);
        CHECK.due("new: limit", shop.count(10), 30);
        int[] prices = {1000, 1200, 1400, 1600, 1800, 2000};
        int[] costs = {400, 500, 600, 700, 800, 900};
        for (int kind = 0; kind < 6; kind++) {
            CHECK.due("new: price", shop.kind(kind, 0), prices[kind]);
            CHECK.due("new: cost", shop.kind(kind, 1), costs[kind]);
        }
        for (int hour = 0; hour <= 10; hour++) {
            CHECK.due("new: cut(" + hour + ")", shop.cut(hour), 0);
        }
    }

    private static void setPriceChangesPriceAndCost() {
        FishCounter shop = new FishCounter();
        CHECK.due("setPrice(5, 9999, 1)", shop.setPrice(5, 9999, 1), 2000);
        CHECK.due("kind(5, 0)", shop.kind(5, 0), 9999);
        CHECK.due("kind(5, 1)", shop.kind(5, 1), 1);
        CHECK.due("setPrice(5, 1, 9999)", shop.setPrice(5, 1, 9999), 9999);
        CHECK.due("kind(5, 0)", shop.kind(5, 0), 1);
        CHECK.due("kind(5, 1)", shop.kind(5, 1), 9999);
        CHECK.due("kind(4, 0)", shop.kind(4, 0), 1800);
        CHECK.due("kind(4, 1)", shop.kind(4, 1), 800);
        CHECK.due("setPrice(0, 7, 7)", shop.setPrice(0, 7, 7), 1000);
        CHECK.due("undo()", shop.undo(), 2);
        CHECK.due("kind(0, 0)", shop.kind(0, 0), 1000);
        CHECK.due("kind(0, 1)", shop.kind(0, 1), 400);
    }

    private static void setPriceRefuses() {
        FishCounter shop = new FishCounter();
        long before = shop.digest();
        for (int kind : new int[] {-1, 6, MIN, MAX}) {
            CHECK.due("setPrice: kind " + kind, shop.setPrice(kind, 1, 1), -1);
            CHECK.due("setPrice: NO_SUCH first", shop.setPrice(kind, 0, 0), -1);
        }
        for (int value : new int[] {0, -1, 10000, MIN, MAX}) {
            CHECK.due("setPrice: price " + value, shop.setPrice(0, value, 1), -2);
            CHECK.due("setPrice: cost " + value, shop.setPrice(0, 1, value), -2);
        }
        CHECK.sameState("setPrice refused", shop, before);
        CHECK.due("undo()", shop.undo(), -3);
    }

    private static void setCutChangesOneHour() {
        FishCounter shop = new FishCounter();
        shop.deliver(0, 1000, 100, 0);
        CHECK.due("setCut(1, 50)", shop.setCut(1, 50), 0);
        CHECK.due("price in hour 0", shop.lot(1, 5), 1000);
        CHECK.due("setCut(0, 90)", shop.setCut(0, 90), 0);
        CHECK.due("price in hour 0", shop.lot(1, 5), 100);
        CHECK.due("setCut(10, 1)", shop.setCut(10, 1), 0);
        CHECK.due("setCut(0, 0)", shop.setCut(0, 0), 90);
        CHECK.due("cut(0)", shop.cut(0), 0);
        CHECK.due("cut(1)", shop.cut(1), 50);
        CHECK.due("cut(10)", shop.cut(10), 1);
        CHECK.due("undo()", shop.undo(), 4);
        CHECK.due("cut(0)", shop.cut(0), 90);
    }

    private static void setCutRefuses() {
        FishCounter shop = new FishCounter();
        long before = shop.digest();
        for (int hour : new int[] {-1, 11, MIN, MAX}) {
            CHECK.due("setCut: hour " + hour, shop.setCut(hour, 1), -1);
            CHECK.due("setCut: NO_SUCH first", shop.setCut(hour, 91), -1);
        }
        for (int percent : new int[] {-1, 91, MIN, MAX}) {
            CHECK.due("setCut: percent " + percent, shop.setCut(10, percent), -2);
        }
        CHECK.sameState("setCut refused", shop, before);
        CHECK.due("undo()", shop.undo(), -3);
    }

    private static void setMeltingChangesMeltingAndLimit() {
        FishCounter shop = new FishCounter();
        CHECK.due("setMelting(500, 100)", shop.setMelting(500, 100), 30);
        CHECK.due("count(9)", shop.count(9), 500);
        CHECK.due("count(10)", shop.count(10), 100);
        CHECK.due("setMelting(0, 0)", shop.setMelting(0, 0), 100);
        CHECK.due("count(9)", shop.count(9), 0);
        CHECK.due("count(10)", shop.count(10), 0);
        CHECK.due("undo()", shop.undo(), 1);
        CHECK.due("count(9)", shop.count(9), 500);
        CHECK.due("count(10)", shop.count(10), 100);
    }

    private static void setMeltingRefuses() {
        FishCounter shop = new FishCounter();
        long before = shop.digest();
        for (int melting : new int[] {-1, 501, MIN, MAX}) {
            CHECK.due("setMelting: melting " + melting, shop.setMelting(melting, 1), -2);
        }
        for (int limit : new int[] {-1, 101, MIN, MAX}) {
            CHECK.due("setMelting: limit " + limit, shop.setMelting(1, limit), -2);
        }
        CHECK.sameState("setMelting refused", shop, before);
        CHECK.due("undo()", shop.undo(), -3);
    }
}
