/** Promises 5 to 11: deliver, iceBox, iceTray, toTray, toBox, divide, throwAway. */
public final class FishTest {
    private static final int MIN = Integer.MIN_VALUE;
    private static final int MAX = Integer.MAX_VALUE;
    private static final Check CHECK = new Check("FishTest");

    public static void main(String[] args) {
        deliverTakesALotAndPays();
        deliverRefuses();
        deliverNamesTheFullBoxBeforeTheLimit();
        iceBoxAddsUpTo5000();
        iceTrayAddsUpTo5000();
        iceRefuses();
        toTrayMovesALot();
        toTrayRefuses();
        toBoxMovesALot();
        toBoxRefuses();
        divideMakesANewLot();
        divideRefuses();
        throwAwayCountsTheGrams();
        throwAwayRefuses();
        CHECK.finish();
    }

    private static void fillWithSixteenLots(FishCounter shop) {
        for (int i = 0; i < 16; i++) {
            CHECK.due("deliver, lot " + (i + 1), shop.deliver(0, 10, 90, i / 3), i + 1);
        }
    }

    private static void deliverTakesALotAndPays() {
        FishCounter shop = new FishCounter();
        CHECK.due("deliver(5, 20000, 100, 5)", shop.deliver(5, 20000, 100, 5), 1);
        CHECK.due("paid", shop.count(7), 18000);
        CHECK.due("deliver(0, 1, 0, 0)", shop.deliver(0, 1, 0, 0), 2);
        CHECK.due("paid, rounded down for the lot by itself", shop.count(7), 18000);
        CHECK.due("deliver(0, 2499, 1, 0)", shop.deliver(0, 2499, 1, 0), 3);
        CHECK.due("paid", shop.count(7), 18999);
        CHECK.due("came", shop.count(4), 22500);
        CHECK.due("there are", shop.count(3), 22500);
        CHECK.due("lots", shop.count(2), 3);
        int[] first = {5, 20000, 100, 5, -6, 2000, 40000};
        for (int what = 0; what < 7; what++) {
            CHECK.due("lot(1, " + what + ")", shop.lot(1, what), first[what]);
        }
        CHECK.due("undo()", shop.undo(), 2);
        CHECK.due("lot(3, 0)", shop.lot(3, 0), -1);
        CHECK.due("deliver gets the number again", shop.deliver(1, 5, 5, 5), 3);
        CHECK.due("throwAway(3)", shop.throwAway(3), 5);
        CHECK.due("a number is not used again", shop.deliver(1, 5, 5, 5), 4);
    }

    private static void deliverRefuses() {
        FishCounter shop = new FishCounter();
        long before = shop.digest();
        for (int value : new int[] {-1, 6, MIN, MAX}) {
            CHECK.due("deliver: kind " + value, shop.deliver(value, 1, 1, 0), -1);
            CHECK.due("deliver: box " + value, shop.deliver(0, 1, 1, value), -1);
            CHECK.due("deliver: NO_SUCH first", shop.deliver(0, 0, 101, value), -1);
        }
        for (int grams : new int[] {0, -1, 20001, MIN, MAX}) {
            CHECK.due("deliver: grams " + grams, shop.deliver(0, grams, 1, 0), -2);
        }
        for (int fresh : new int[] {-1, 101, MIN, MAX}) {
            CHECK.due("deliver: fresh " + fresh, shop.deliver(0, 1, fresh, 0), -2);
        }
        CHECK.sameState("deliver refused", shop, before);
        CHECK.due("undo()", shop.undo(), -3);
    }

    private static void deliverNamesTheFullBoxBeforeTheLimit() {
        FishCounter shop = new FishCounter();
        fillWithSixteenLots(shop);
        long before = shop.digest();
        CHECK.due("deliver: 3 lots and 16", shop.deliver(0, 1, 1, 0), -3);
        CHECK.due("deliver: 16 lots", shop.deliver(0, 1, 1, 5), -4);
        CHECK.due("deliver: BAD_VALUE first", shop.deliver(0, 0, 1, 0), -2);
        CHECK.due("deliver: NO_SUCH first", shop.deliver(6, 1, 1, 0), -1);
        CHECK.sameState("deliver refused", shop, before);
        CHECK.due("throwAway(1)", shop.throwAway(1), 10);
        CHECK.due("deliver with room again", shop.deliver(0, 1, 1, 0), 17);
    }

    private static void iceBoxAddsUpTo5000() {
        FishCounter shop = new FishCounter();
        CHECK.due("iceBox(5, 1)", shop.iceBox(5, 1), 1);
        CHECK.due("iceBox(5, 4998)", shop.iceBox(5, 4998), 4999);
        CHECK.due("iceBox(5, 5000)", shop.iceBox(5, 5000), 5000);
        CHECK.due("iceBox(5, 1)", shop.iceBox(5, 1), 5000);
        CHECK.due("box(5, 0)", shop.box(5, 0), 5000);
        CHECK.due("box(4, 0)", shop.box(4, 0), 0);
        CHECK.due("tray(4, 0)", shop.tray(4, 0), 0);
        CHECK.due("undo()", shop.undo(), 3);
        CHECK.due("undo()", shop.undo(), 2);
        CHECK.due("box(5, 0)", shop.box(5, 0), 4999);
    }

    private static void iceTrayAddsUpTo5000() {
        FishCounter shop = new FishCounter();
        CHECK.due("iceTray(4, 1)", shop.iceTray(4, 1), 1);
        CHECK.due("iceTray(4, 4998)", shop.iceTray(4, 4998), 4999);
        CHECK.due("iceTray(4, 5000)", shop.iceTray(4, 5000), 5000);
        CHECK.due("iceTray(4, 1)", shop.iceTray(4, 1), 5000);
        CHECK.due("tray(4, 0)", shop.tray(4, 0), 5000);
        CHECK.due("tray(3, 0)", shop.tray(3, 0), 0);
        CHECK.due("box(4, 0)", shop.box(4, 0), 0);
        CHECK.due("undo()", shop.undo(), 3);
        CHECK.due("undo()", shop.undo(), 2);
        CHECK.due("tray(4, 0)", shop.tray(4, 0), 4999);
    }

    private static void iceRefuses() {
        FishCounter shop = new FishCounter();
        long before = shop.digest();
        for (int place : new int[] {-1, 6, MIN, MAX}) {
            CHECK.due("iceBox: box " + place, shop.iceBox(place, 1), -1);
            CHECK.due("iceTray: tray " + place, shop.iceTray(place, 1), -1);
            CHECK.due("iceBox: NO_SUCH first", shop.iceBox(place, 0), -1);
            CHECK.due("iceTray: NO_SUCH first", shop.iceTray(place, 0), -1);
        }
        CHECK.due("iceTray(5, 1)", shop.iceTray(5, 1), -1);
        for (int grams : new int[] {0, -1, 5001, MIN, MAX}) {
            CHECK.due("iceBox: grams " + grams, shop.iceBox(0, grams), -2);
            CHECK.due("iceTray: grams " + grams, shop.iceTray(0, grams), -2);
        }
        CHECK.sameState("ice refused", shop, before);
        CHECK.due("undo()", shop.undo(), -3);
    }

    private static void toTrayMovesALot() {
        FishCounter shop = new FishCounter();
        shop.deliver(5, 10, 51, 5);
        shop.setCut(0, 33);
        CHECK.due("toTray(1, 4)", shop.toTray(1, 4), 1005);
        CHECK.due("lot(1, 3)", shop.lot(1, 3), -6);
        CHECK.due("lot(1, 4)", shop.lot(1, 4), 4);
        CHECK.due("tray(4, 1)", shop.tray(4, 1), 1);
        CHECK.due("box(5, 1)", shop.box(5, 1), 0);
        CHECK.due("toTray(1, 0), from tray to tray", shop.toTray(1, 0), 1005);
        CHECK.due("tray(4, 1)", shop.tray(4, 1), -6);
        CHECK.due("tray(0, 1)", shop.tray(0, 1), 1);
        CHECK.due("undo()", shop.undo(), 3);
        CHECK.due("undo()", shop.undo(), 2);
        CHECK.due("lot(1, 3)", shop.lot(1, 3), 5);
    }

    private static void toTrayRefuses() {
        FishCounter shop = new FishCounter();
        shop.deliver(0, 10, 90, 0);
        shop.deliver(0, 10, 90, 0);
        shop.toTray(2, 1);
        long before = shop.digest();
        for (int lot : new int[] {0, 3, -1, -6, MIN, MAX}) {
            CHECK.due("toTray: lot " + lot, shop.toTray(lot, 1), -1);
        }
        for (int tray : new int[] {-1, 5, -6, MIN, MAX}) {
            CHECK.due("toTray: tray " + tray, shop.toTray(1, tray), -1);
        }
        CHECK.due("toTray onto another lot", shop.toTray(1, 1), -3);
        CHECK.due("toTray where it is", shop.toTray(2, 1), -3);
        CHECK.sameState("toTray refused", shop, before);
        CHECK.due("undo()", shop.undo(), 2);
    }

    private static void toBoxMovesALot() {
        FishCounter shop = new FishCounter();
        shop.deliver(0, 10, 90, 0);
        shop.deliver(0, 10, 90, 5);
        shop.toTray(1, 0);
        CHECK.due("toBox(1, 5), from a tray", shop.toBox(1, 5), 2);
        CHECK.due("lot(1, 3)", shop.lot(1, 3), 5);
        CHECK.due("lot(1, 4)", shop.lot(1, 4), -6);
        CHECK.due("tray(0, 1)", shop.tray(0, 1), -6);
        CHECK.due("box(5, 3)", shop.box(5, 3), 1);
        CHECK.due("toBox(1, 0), from box to box", shop.toBox(1, 0), 1);
        CHECK.due("box(5, 1)", shop.box(5, 1), 1);
        CHECK.due("undo()", shop.undo(), 4);
        CHECK.due("lot(1, 3)", shop.lot(1, 3), 5);
    }

    private static void toBoxRefuses() {
        FishCounter shop = new FishCounter();
        for (int i = 0; i < 3; i++) {
            shop.deliver(0, 10, 90, 0);
        }
        shop.deliver(0, 10, 90, 1);
        long before = shop.digest();
        for (int lot : new int[] {0, 5, -1, -6, MIN, MAX}) {
            CHECK.due("toBox: lot " + lot, shop.toBox(lot, 0), -1);
        }
        for (int box : new int[] {-1, 6, -6, MIN, MAX}) {
            CHECK.due("toBox: box " + box, shop.toBox(1, box), -1);
        }
        CHECK.due("toBox, 3 lots", shop.toBox(4, 0), -3);
        CHECK.due("toBox where it is, 3 lots", shop.toBox(3, 0), -3);
        CHECK.due("toBox where it is", shop.toBox(4, 1), -3);
        CHECK.sameState("toBox refused", shop, before);
        CHECK.due("undo()", shop.undo(), 3);
    }

    private static void divideMakesANewLot() {
        FishCounter shop = new FishCounter();
        shop.deliver(3, 20000, 77, 0);
        CHECK.due("divide(1, 19999, 5)", shop.divide(1, 19999, 5), 2);
        CHECK.due("lot(1, 1)", shop.lot(1, 1), 1);
        int[] second = {3, 19999, 77, 5, -6, 1408, 28158};
        for (int what = 0; what < 7; what++) {
            CHECK.due("lot(2, " + what + ")", shop.lot(2, what), second[what]);
        }
        CHECK.due("came", shop.count(4), 20000);
        CHECK.due("paid", shop.count(7), 14000);
        CHECK.due("there are", shop.count(3), 20000);
        shop.toTray(2, 0);
        CHECK.due("divide a lot on a tray", shop.divide(2, 1, 5), 3);
        CHECK.due("lot(2, 4)", shop.lot(2, 4), 0);
        CHECK.due("lot(2, 1)", shop.lot(2, 1), 19998);
        CHECK.due("lot(3, 3)", shop.lot(3, 3), 5);
        CHECK.due("divide a lot of 1 gram", shop.divide(3, 1, 5), -3);
        CHECK.due("undo()", shop.undo(), 3);
        CHECK.due("lot(2, 1)", shop.lot(2, 1), 19999);
        CHECK.due("lot(3, 1)", shop.lot(3, 1), -1);
        CHECK.due("divide gets the number again", shop.divide(2, 10000, 5), 3);
        CHECK.due("divide into the lot's box", shop.divide(3, 1, 5), 4);
        CHECK.due("box(5, 1)", shop.box(5, 1), 2);
    }

    private static void divideRefuses() {
        FishCounter shop = new FishCounter();
        fillWithSixteenLots(shop);
        long before = shop.digest();
        for (int lot : new int[] {0, 17, -1, MIN, MAX}) {
            CHECK.due("divide: lot " + lot, shop.divide(lot, 0, 0), -1);
        }
        for (int box : new int[] {-1, 6, MIN, MAX}) {
            CHECK.due("divide: box " + box, shop.divide(1, 0, box), -1);
        }
        for (int grams : new int[] {0, -1, 20000, MIN, MAX}) {
            CHECK.due("divide: grams " + grams, shop.divide(1, grams, 0), -2);
        }
        CHECK.due("divide: all of it", shop.divide(1, 10, 5), -3);
        CHECK.due("divide: more than all", shop.divide(1, 19999, 5), -3);
        CHECK.due("divide: 3 lots and 16", shop.divide(1, 9, 0), -3);
        CHECK.due("divide: 16 lots", shop.divide(1, 9, 5), -4);
        CHECK.sameState("divide refused", shop, before);
        shop.throwAway(16);
        CHECK.due("divide: 3 lots", shop.divide(1, 9, 0), -3);
        CHECK.due("divide with room again", shop.divide(1, 9, 5), 17);
    }

    private static void throwAwayCountsTheGrams() {
        FishCounter shop = new FishCounter();
        shop.deliver(0, 20000, 100, 0);
        shop.deliver(1, 30, 20, 0);
        shop.deliver(2, 7, 20, 0);
        shop.toTray(2, 0);
        CHECK.due("throwAway(2), on a tray", shop.throwAway(2), 30);
        CHECK.due("tray(0, 1)", shop.tray(0, 1), -6);
        CHECK.due("throwAway(1), in a box", shop.throwAway(1), 20000);
        CHECK.due("thrown away", shop.count(6), 20030);
        CHECK.due("there are", shop.count(3), 7);
        CHECK.due("lots", shop.count(2), 1);
        CHECK.due("box(0, 3)", shop.box(0, 3), 3);
        CHECK.due("lot(3, 0)", shop.lot(3, 0), 2);
        CHECK.due("undo()", shop.undo(), 5);
        CHECK.due("lot(1, 1)", shop.lot(1, 1), 20000);
        CHECK.due("lot(3, 1)", shop.lot(3, 1), 7);
        CHECK.due("thrown away", shop.count(6), 30);
    }

    private static void throwAwayRefuses() {
        FishCounter shop = new FishCounter();
        shop.deliver(0, 10, 90, 0);
        shop.deliver(0, 10, 90, 0);
        shop.throwAway(1);
        long before = shop.digest();
        for (int lot : new int[] {0, 1, 3, -1, -6, MIN, MAX}) {
            CHECK.due("throwAway: lot " + lot, shop.throwAway(lot), -1);
        }
        CHECK.sameState("throwAway refused", shop, before);
        CHECK.due("undo()", shop.undo(), 2);
    }
}
