/** Promises 12 to 14: order, pass, close. */
public final class SalesTest {
    private static final int MIN = Integer.MIN_VALUE;
    private static final int MAX = Integer.MAX_VALUE;
    private static final Check CHECK = new Check("SalesTest");

    public static void main(String[] args) {
        orderServesTheLeastFreshFirst();
        orderTakesTheLowestNumberOfSeveral();
        orderSellsOnlyWhatFits();
        orderSellsFromAllTrays();
        orderTakesMoneyForEachLotByItself();
        orderRefuses();
        orderOfNothingSavesAState();
        passMakesFishLessFresh();
        passMeltsAfterTheFish();
        passOfSixteenLots();
        passEndsInTheHourTen();
        closeThrowsAwayWhatIsBelowTheLimit();
        closePutsTraysIntoTheIciestBoxes();
        closeTakesTheLowestOfSeveralBoxes();
        closeOfSixteenLots();
        closeGoesOnToTheNextDay();
        closeStopsInTheLastDay();
        CHECK.finish();
    }

    private static void orderServesTheLeastFreshFirst() {
        FishCounter shop = new FishCounter();
        shop.deliver(1, 100, 80, 0);
        shop.deliver(1, 100, 60, 0);
        shop.deliver(1, 100, 70, 0);
        shop.toTray(1, 0);
        shop.toTray(2, 1);
        shop.toTray(3, 2);
        CHECK.due("order(1, 150, 0, 9999)", shop.order(1, 150, 0, 9999), 150);
        CHECK.due("the least fresh is gone", shop.lot(2, 1), -1);
        CHECK.due("its tray is empty", shop.tray(1, 1), -6);
        CHECK.due("lot(3, 1)", shop.lot(3, 1), 50);
        CHECK.due("lot(1, 1)", shop.lot(1, 1), 100);
        CHECK.due("sold", shop.count(5), 150);
        CHECK.due("came", shop.count(4), 300);
        CHECK.due("there are", shop.count(3), 150);
        CHECK.due("order of more than there is", shop.order(1, 20000, 0, 9999), 150);
        CHECK.due("lots", shop.count(2), 0);
        CHECK.due("sold", shop.count(5), 300);
        CHECK.due("undo()", shop.undo(), 5);
        CHECK.due("undo()", shop.undo(), 4);
        CHECK.due("lot(2, 1)", shop.lot(2, 1), 100);
        CHECK.due("taken", shop.count(8), 0);
        CHECK.due("sold", shop.count(5), 0);
    }

    private static void orderTakesTheLowestNumberOfSeveral() {
        FishCounter shop = new FishCounter();
        shop.deliver(0, 10, 50, 0);
        shop.deliver(0, 10, 50, 0);
        shop.deliver(0, 10, 50, 0);
        shop.toTray(3, 0);
        shop.toTray(2, 1);
        shop.toTray(1, 2);
        CHECK.due("order(0, 15, 50, 9999)", shop.order(0, 15, 50, 9999), 15);
        CHECK.due("lot(1, 1)", shop.lot(1, 1), -1);
        CHECK.due("lot(2, 1)", shop.lot(2, 1), 5);
        CHECK.due("lot(3, 1)", shop.lot(3, 1), 10);
    }

    private static void orderSellsOnlyWhatFits() {
        FishCounter shop = new FishCounter();
        shop.deliver(0, 10, 90, 0);
        shop.deliver(1, 10, 90, 0);
        shop.deliver(0, 10, 29, 0);
        shop.deliver(0, 10, 30, 1);
        shop.deliver(0, 10, 60, 1);
        shop.toTray(2, 0);
        shop.toTray(3, 1);
        shop.toTray(4, 2);
        shop.toTray(5, 3);
        CHECK.due("neither in a box nor below the limit", shop.order(0, 100, 0, 9999), 20);
        CHECK.due("lot(1, 1), in a box", shop.lot(1, 1), 10);
        CHECK.due("lot(2, 1), another kind", shop.lot(2, 1), 10);
        CHECK.due("lot(3, 1), below the limit", shop.lot(3, 1), 10);
        CHECK.due("lot(4, 1), at the limit", shop.lot(4, 1), -1);
        CHECK.due("undo()", shop.undo(), 5);
        CHECK.due("so fresh", shop.order(0, 1, 60, 9999), 1);
        CHECK.due("not so fresh", shop.order(0, 1, 61, 9999), 0);
        CHECK.due("the dearer one left out", shop.order(0, 100, 0, 650), 10);
        CHECK.due("lot(4, 1)", shop.lot(4, 1), -1);
        CHECK.due("at most 799", shop.order(0, 100, 0, 799), 0);
        shop.setCut(0, 50);
        CHECK.due("the price is that of the hour", shop.order(0, 4, 0, 400), 4);
        CHECK.due("taken: 0, then 6 and 1", shop.count(8), 0 + 6 + 1);
    }

    private static void orderSellsFromAllTrays() {
        FishCounter shop = new FishCounter();
        for (int i = 0; i < 5; i++) {
            shop.deliver(3, 100, 40 + i, i);
            shop.toTray(i + 1, i);
        }
        CHECK.due("order(3, 450, 0, 9999)", shop.order(3, 450, 0, 9999), 450);
        CHECK.due("lots", shop.count(2), 1);
        CHECK.due("lot(5, 1)", shop.lot(5, 1), 50);
        CHECK.due("undo()", shop.undo(), 5);
        CHECK.due("order(3, 501, 0, 9999)", shop.order(3, 501, 0, 9999), 500);
        CHECK.due("lots", shop.count(2), 0);
    }

    private static void orderTakesMoneyForEachLotByItself() {
        FishCounter shop = new FishCounter();
        shop.deliver(0, 3, 100, 0);
        shop.deliver(0, 3, 100, 0);
        shop.setPrice(0, 999, 1);
        shop.toTray(1, 0);
        shop.toTray(2, 1);
        CHECK.due("order(0, 6, 100, 999)", shop.order(0, 6, 100, 999), 6);
        CHECK.due("taken: 2 and 2, not 5", shop.count(8), 4);
    }

    private static void orderRefuses() {
        FishCounter shop = new FishCounter();
        shop.deliver(0, 10, 90, 0);
        shop.toTray(1, 0);
        long before = shop.digest();
        for (int kind : new int[] {-1, 6, MIN, MAX}) {
            CHECK.due("order: kind " + kind, shop.order(kind, 0, 101, 0), -1);
        }
        for (int grams : new int[] {0, -1, 20001, MIN, MAX}) {
            CHECK.due("order: grams " + grams, shop.order(0, grams, 0, 9999), -2);
        }
        for (int fresh : new int[] {-1, 101, MIN, MAX}) {
            CHECK.due("order: fresh " + fresh, shop.order(0, 1, fresh, 9999), -2);
        }
        for (int price : new int[] {0, -1, 10000, MIN, MAX}) {
            CHECK.due("order: price " + price, shop.order(0, 1, 0, price), -2);
        }
        CHECK.sameState("order refused", shop, before);
        CHECK.due("undo()", shop.undo(), 1);
    }

    private static void orderOfNothingSavesAState() {
        FishCounter shop = new FishCounter();
        CHECK.due("order(5, 1, 0, 1)", shop.order(5, 1, 0, 1), 0);
        CHECK.due("undo()", shop.undo(), 0);
    }

    private static void passMakesFishLessFresh() {
        FishCounter shop = new FishCounter();
        shop.setMelting(0, 30);
        int[] fresh = {50, 50, 50, 50};
        for (int i = 0; i < 4; i++) {
            shop.deliver(i, 10, fresh[i], i);
        }
        shop.iceBox(0, 1);
        shop.toTray(3, 0);
        shop.toTray(4, 4);
        shop.iceTray(0, 1);
        CHECK.due("pass()", shop.pass(), 1);
        CHECK.due("count(1)", shop.count(1), 1);
        CHECK.due("box with ice", shop.lot(1, 2), 49);
        CHECK.due("box without ice", shop.lot(2, 2), 44);
        CHECK.due("tray with ice", shop.lot(3, 2), 48);
        CHECK.due("tray without ice", shop.lot(4, 2), 41);
        CHECK.due("undo()", shop.undo(), 5);
        CHECK.due("count(1)", shop.count(1), 0);
        CHECK.due("lot(4, 2)", shop.lot(4, 2), 50);
        for (int hour = 1; hour <= 10; hour++) {
            CHECK.due("pass()", shop.pass(), hour);
        }
        CHECK.due("box with ice", shop.lot(1, 2), 40);
        CHECK.due("box without ice, at least 0", shop.lot(2, 2), 0);
        CHECK.due("tray with ice", shop.lot(3, 2), 30);
        CHECK.due("tray without ice, at least 0", shop.lot(4, 2), 0);
    }

    private static void passMeltsAfterTheFish() {
        FishCounter shop = new FishCounter();
        shop.deliver(0, 10, 100, 0);
        shop.deliver(0, 10, 100, 1);
        shop.toTray(2, 0);
        shop.iceBox(0, 150);
        shop.iceBox(5, 5000);
        shop.iceTray(0, 250);
        shop.iceTray(4, 5000);
        shop.pass();
        CHECK.due("box(0, 0)", shop.box(0, 0), 50);
        CHECK.due("box(5, 0)", shop.box(5, 0), 4900);
        CHECK.due("tray(0, 0), twice as fast", shop.tray(0, 0), 50);
        CHECK.due("tray(4, 0)", shop.tray(4, 0), 4800);
        shop.pass();
        CHECK.due("box(0, 0), at least 0", shop.box(0, 0), 0);
        CHECK.due("tray(0, 0), at least 0", shop.tray(0, 0), 0);
        CHECK.due("lot(1, 2), the ice helped for this hour", shop.lot(1, 2), 98);
        CHECK.due("lot(2, 2)", shop.lot(2, 2), 96);
        shop.pass();
        CHECK.due("lot(1, 2), the ice is gone", shop.lot(1, 2), 92);
        CHECK.due("lot(2, 2)", shop.lot(2, 2), 87);
    }

    private static void passOfSixteenLots() {
        FishCounter shop = new FishCounter();
        for (int i = 0; i < 16; i++) {
            shop.deliver(0, 10, 90 - i, i / 3);
        }
        CHECK.due("pass()", shop.pass(), 1);
        for (int i = 0; i < 16; i++) {
            CHECK.due("lot(.., 2)", shop.lot(i + 1, 2), 84 - i);
        }
    }

    private static void passEndsInTheHourTen() {
        FishCounter shop = new FishCounter();
        for (int hour = 1; hour <= 10; hour++) {
            CHECK.due("pass()", shop.pass(), hour);
        }
        long before = shop.digest();
        CHECK.due("pass() in the hour 10", shop.pass(), -3);
        CHECK.sameState("pass refused", shop, before);
        CHECK.due("undo()", shop.undo(), 5);
        CHECK.due("count(1)", shop.count(1), 9);
    }

    private static void closeThrowsAwayWhatIsBelowTheLimit() {
        FishCounter shop = new FishCounter();
        shop.deliver(0, 1, 29, 0);
        shop.deliver(0, 20, 30, 0);
        shop.deliver(0, 300, 0, 1);
        shop.deliver(0, 4000, 29, 2);
        shop.toTray(4, 0);
        CHECK.due("close()", shop.close(), 4301);
        CHECK.due("lots", shop.count(2), 1);
        CHECK.due("lot(2, 1)", shop.lot(2, 1), 20);
        CHECK.due("thrown away", shop.count(6), 4301);
        CHECK.due("there are", shop.count(3), 20);
        CHECK.due("undo()", shop.undo(), 5);
        CHECK.due("lots", shop.count(2), 4);
        CHECK.due("lot(4, 4)", shop.lot(4, 4), 0);
        CHECK.due("count(0)", shop.count(0), 0);
    }

    private static void closePutsTraysIntoTheIciestBoxes() {
        FishCounter shop = new FishCounter();
        for (int i = 0; i < 5; i++) {
            shop.deliver(0, 10 + i, 50, 1);
            shop.toTray(i + 1, 4 - i);
        }
        shop.deliver(0, 10, 50, 3);
        shop.deliver(0, 10, 10, 3);
        shop.iceBox(3, 700);
        shop.iceBox(4, 300);
        shop.iceBox(2, 300);
        shop.iceTray(1, 50);
        CHECK.due("close(), lot 7 makes room first", shop.close(), 10);
        CHECK.due("lot(5, 3), from tray 0", shop.lot(5, 3), 3);
        CHECK.due("lot(4, 3), from tray 1", shop.lot(4, 3), 3);
        CHECK.due("lot(3, 3), from tray 2", shop.lot(3, 3), 2);
        CHECK.due("lot(2, 3), from tray 3", shop.lot(2, 3), 2);
        CHECK.due("lot(1, 3), from tray 4", shop.lot(1, 3), 2);
        CHECK.due("lot(1, 4)", shop.lot(1, 4), -6);
        CHECK.due("tray(1, 0)", shop.tray(1, 0), 0);
        CHECK.due("box(3, 0)", shop.box(3, 0), 700);
        CHECK.due("lot(1, 2), as fresh as before", shop.lot(1, 2), 50);
    }

    private static void closeTakesTheLowestOfSeveralBoxes() {
        FishCounter shop = new FishCounter();
        shop.deliver(0, 10, 50, 5);
        shop.toTray(1, 2);
        CHECK.due("close()", shop.close(), 0);
        CHECK.due("lot(1, 3), all without ice", shop.lot(1, 3), 0);
        shop.toTray(1, 2);
        shop.iceBox(1, 1);
        shop.iceBox(5, 1);
        CHECK.due("close()", shop.close(), 0);
        CHECK.due("lot(1, 3), two with as much ice", shop.lot(1, 3), 1);
    }

    private static void closeOfSixteenLots() {
        FishCounter shop = new FishCounter();
        for (int i = 0; i < 16; i++) {
            shop.deliver(0, 10, 50, i / 3);
        }
        for (int tray = 0; tray < 5; tray++) {
            shop.toTray(16 - 3 * tray, tray);
        }
        CHECK.due("close(), none is thrown away", shop.close(), 0);
        CHECK.due("lots", shop.count(2), 16);
        CHECK.due("lot(16, 3), from tray 0", shop.lot(16, 3), 1);
        CHECK.due("lot(13, 3), from tray 1", shop.lot(13, 3), 2);
        CHECK.due("lot(10, 3), from tray 2", shop.lot(10, 3), 3);
        CHECK.due("lot(7, 3), from tray 3", shop.lot(7, 3), 4);
        CHECK.due("lot(4, 3), from tray 4", shop.lot(4, 3), 5);
        for (int box = 0; box < 6; box++) {
            CHECK.due("box(" + box + ", 1)", shop.box(box, 1), box == 5 ? 1 : 3);
        }
    }

    private static void closeGoesOnToTheNextDay() {
        FishCounter shop = new FishCounter();
        shop.iceTray(4, 100);
        shop.pass();
        shop.pass();
        shop.iceTray(4, 77);
        CHECK.due("close()", shop.close(), 0);
        CHECK.due("count(0)", shop.count(0), 1);
        CHECK.due("count(1)", shop.count(1), 0);
        CHECK.due("tray(4, 0), without a lot", shop.tray(4, 0), 0);
        CHECK.due("close() in the hour 0", shop.close(), 0);
        CHECK.due("count(0)", shop.count(0), 2);
    }

    /** The day 999 is more than 512 calls away, so this asks for more than is promised. */
    private static void closeStopsInTheLastDay() {
        FishCounter shop = new FishCounter();
        for (int day = 1; day <= 999; day++) {
            shop.close();
        }
        CHECK.due("count(0)", shop.count(0), 999);
        CHECK.due("close() in the day 999", shop.close(), -4);
        CHECK.due("count(0)", shop.count(0), 999);
    }
}
