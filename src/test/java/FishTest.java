/** Promises 5 to 8: deliver, iceBox, iceTray, toTray. */
public final class FishTest {
    private static final Check CHECK = new Check("FishTest");

    public static void main(String[] args) {
        deliverTakesALotAndPays();
        deliverTakesItsRanges();
        deliverReturnsItsNumber();
        deliverRefusesArguments();
        deliverRefusesAFullBox();
        deliverRefusesASeventeenthLot();
        iceBoxAddsIce();
        iceBoxTakesItsRanges();
        iceBoxReturnsAtMost5000();
        iceBoxRefuses();
        iceTrayAddsIce();
        iceTrayTakesItsRanges();
        iceTrayReturnsAtMost5000();
        iceTrayRefuses();
        toTrayPutsALotOntoATray();
        toTrayTakesItsRanges();
        toTrayReturnsThePrice();
        toTrayRefusesArguments();
        toTrayRefusesATrayWithALot();
        fishAndIceAreUndoable();
        CHECK.finish();
    }

    private static void deliverTakesALotAndPays() {
        CHECK.promise(5, "Takes a new lot into a box and pays for it");
        FishCounter shop = new FishCounter();
        shop.deliver(5, 20000, 100, 5);
        CHECK.due("paid for the greatest lot", shop.count(7), 18000);
        shop.deliver(0, 1, 0, 0);
        CHECK.due("paid, with a gram for less than a cent", shop.count(7), 18000);
        shop.deliver(0, 2499, 1, 0);
        CHECK.due("paid, rounded down for each lot by itself", shop.count(7), 18999);
        int[][] lots = {{5, 20000, 100, 5, -6, 2000, 40000}, {0, 1, 0, 0, -6, 500, 0}, {0, 2499, 1, 0, -6, 500, 1249}};
        for (int lot = 1; lot <= 3; lot++) {
            for (int what = 0; what < 7; what++) {
                CHECK.due("lot(" + lot + ", " + what + ")", shop.lot(lot, what), lots[lot - 1][what]);
            }
        }
        int[] counts = {0, 0, 3, 22500, 22500, 0, 0, 18999, 0, 100, 30};
        for (int what = 0; what <= 10; what++) {
            CHECK.due("count(" + what + ")", shop.count(what), counts[what]);
        }
        shop.setPrice(1, 1, 9999);
        shop.deliver(1, 20000, 50, 1);
        CHECK.due("paid at the greatest cost", shop.count(7), 18999 + 199980);
    }

    private static void deliverTakesItsRanges() {
        CHECK.promise(5, "`kind`: 0 to 5");
        CHECK.rangeElseNoSuch(0, 5, Shops::busy, kind -> shop -> shop.deliver(kind, 100, 50, 0));
        CHECK.promise(5, "`grams`: 1 to 20000");
        CHECK.rangeElseBadValue(1, 20000, Shops::busy, grams -> shop -> shop.deliver(0, grams, 50, 0));
        CHECK.promise(5, "`fresh`: 0 to 100");
        CHECK.rangeElseBadValue(0, 100, Shops::busy, fresh -> shop -> shop.deliver(0, 100, fresh, 0));
        CHECK.promise(5, "`box`: 0 to 5");
        CHECK.rangeElseNoSuch(0, 5, Shops::busy, box -> shop -> shop.deliver(0, 100, 50, box));
    }

    private static void deliverReturnsItsNumber() {
        CHECK.promise(5, "Returns its number");
        FishCounter shop = new FishCounter();
        for (int number = 1; number <= 16; number++) {
            CHECK.due("lot " + number, shop.deliver(0, 10, 50, number % 6), number);
        }
        shop.deliver(0, 10, 50, 0);
        shop.throwAway(16);
        CHECK.due("after a refused one", shop.deliver(0, 10, 50, 5), 17);
        shop.throwAway(17);
        CHECK.due("the number of a lot that is gone is not used again", shop.deliver(0, 10, 50, 5), 18);
        shop.throwAway(1);
        shop.throwAway(2);
        CHECK.due("the number of the divided part", shop.divide(3, 5, 0), 19);
        CHECK.due("the one after it", shop.deliver(0, 10, 50, 1), 20);
        shop.undo();
        CHECK.due("undo() brings the number back", shop.deliver(0, 10, 50, 2), 20);
    }

    private static void deliverRefusesArguments() {
        CHECK.promise(5, "NO_SUCH if there is no such kind or box");
        CHECK.noSuch("kind 6", Shops::busy, shop -> shop.deliver(6, 1, 0, 0));
        CHECK.noSuch("box 6", Shops::busy, shop -> shop.deliver(0, 1, 0, 6));
        CHECK.noSuch("both", Shops::busy, shop -> shop.deliver(-1, 1, 0, -1));
        CHECK.noSuch("kind and values", Shops::busy, shop -> shop.deliver(6, 0, 101, 0));
        CHECK.noSuch("box and values", Shops::busy, shop -> shop.deliver(0, 20001, -1, 6));
        CHECK.noSuch("kind, before a full box", Shops::withFullBox, shop -> shop.deliver(-1, 1, 0, 0));
        CHECK.noSuch("kind, before 16 lots", Shops::full, shop -> shop.deliver(6, 1, 0, 5));
        CHECK.noSuch("box, before 16 lots", Shops::full, shop -> shop.deliver(0, 1, 0, 6));
        CHECK.promise(5, "BAD_VALUE if grams or fresh is out of range");
        CHECK.badValue("grams 0", Shops::busy, shop -> shop.deliver(0, 0, 0, 0));
        CHECK.badValue("grams 20001", Shops::busy, shop -> shop.deliver(0, 20001, 100, 0));
        CHECK.badValue("fresh -1", Shops::busy, shop -> shop.deliver(0, 1, -1, 0));
        CHECK.badValue("fresh 101", Shops::busy, shop -> shop.deliver(0, 20000, 101, 0));
        CHECK.badValue("both", Shops::busy, shop -> shop.deliver(0, 0, 101, 0));
        CHECK.badValue("grams, before a full box", Shops::withFullBox, shop -> shop.deliver(0, 0, 0, 0));
        CHECK.badValue("fresh, before a full box", Shops::withFullBox, shop -> shop.deliver(0, 1, 101, 0));
        CHECK.badValue("grams, before 16 lots", Shops::full, shop -> shop.deliver(0, 20001, 0, 5));
        CHECK.badValue("fresh, before 16 lots", Shops::full, shop -> shop.deliver(0, 1, -1, 5));
    }

    private static void deliverRefusesAFullBox() {
        CHECK.promise(5, "NOT_POSSIBLE if the box has 3 lots");
        for (int i = 0; i < 6; i++) {
            int box = i;
            FishCounter shop = new FishCounter();
            CHECK.due("the first lot", shop.deliver(0, 1, 0, box), 1);
            CHECK.due("the second lot", shop.deliver(0, 1, 0, box), 2);
            CHECK.due("the third lot", shop.deliver(0, 1, 0, box), 3);
            CHECK.due("the fourth lot", shop.deliver(0, 1, 0, box), Check.NOT_POSSIBLE);
            CHECK.due("another box", shop.deliver(0, 1, 0, (box + 1) % 6), 4);
            shop.toTray(2, 0);
            CHECK.due("after one went onto a tray", shop.deliver(0, 1, 0, box), 5);
            shop.throwAway(1);
            CHECK.due("after one was thrown away", shop.deliver(0, 1, 0, box), 6);
            shop.toBox(3, (box + 2) % 6);
            CHECK.due("after one went into another box", shop.deliver(0, 1, 0, box), 7);
            CHECK.due("the fourth lot again", shop.deliver(0, 1, 0, box), Check.NOT_POSSIBLE);
        }
        CHECK.notPossible("3 lots", Shops::withFullBox, shop -> shop.deliver(0, 1, 0, 0));
        CHECK.notPossible("3 lots, before 16 lots", Shops::full, shop -> shop.deliver(0, 1, 0, 4));
    }

    private static void deliverRefusesASeventeenthLot() {
        CHECK.promise(5, "LIMIT if there are 16 lots");
        CHECK.limit("16 lots", Shops::full, shop -> shop.deliver(0, 1, 0, 5));
        FishCounter shop = Shops.full();
        shop.toTray(16, 0);
        CHECK.due("16 lots, one of them on a tray", shop.deliver(0, 1, 0, 5), Check.LIMIT);
        shop.throwAway(16);
        CHECK.due("15 lots", shop.deliver(0, 1, 0, 5), 17);
        CHECK.due("16 lots again", shop.deliver(0, 1, 0, 5), Check.LIMIT);
        shop.toTray(1, 0);
        shop.order(0, 10, 0, 9999);
        CHECK.due("15 lots, since one was sold", shop.deliver(0, 1, 0, 5), 18);
        shop.undo();
        CHECK.due("15 lots after undo()", shop.deliver(0, 1, 0, 5), 18);
        CHECK.due("16 lots again", shop.deliver(0, 1, 0, 5), Check.LIMIT);
    }

    private static void iceBoxAddsIce() {
        CHECK.promise(6, "Adds ice to a box");
        for (int box = 0; box < 6; box++) {
            FishCounter shop = new FishCounter();
            shop.iceBox(box, 7);
            shop.iceBox(box, 5);
            for (int other = 0; other < 6; other++) {
                CHECK.due("box(" + other + ", 0)", shop.box(other, 0), other == box ? 12 : 0);
            }
            for (int tray = 0; tray < 5; tray++) {
                CHECK.due("tray(" + tray + ", 0)", shop.tray(tray, 0), 0);
            }
        }
    }

    private static void iceBoxTakesItsRanges() {
        CHECK.promise(6, "`box`: 0 to 5");
        CHECK.rangeElseNoSuch(0, 5, Shops::busy, box -> shop -> shop.iceBox(box, 100));
        CHECK.promise(6, "`grams`: 1 to 5000");
        CHECK.rangeElseBadValue(1, 5000, Shops::busy, grams -> shop -> shop.iceBox(0, grams));
    }

    private static void iceBoxReturnsAtMost5000() {
        CHECK.promise(6, "Returns its ice then, which is at most 5000");
        FishCounter shop = new FishCounter();
        CHECK.due("1 to 0", shop.iceBox(5, 1), 1);
        CHECK.due("4998 to 1", shop.iceBox(5, 4998), 4999);
        CHECK.due("1 to 4999", shop.iceBox(5, 1), 5000);
        CHECK.due("1 to 5000", shop.iceBox(5, 1), 5000);
        CHECK.due("5000 to 5000", shop.iceBox(5, 5000), 5000);
        CHECK.due("5000 to 0", shop.iceBox(4, 5000), 5000);
        CHECK.due("4999 to 0", shop.iceBox(3, 4999), 4999);
        CHECK.due("2 to 4999", shop.iceBox(3, 2), 5000);
        CHECK.due("box(3, 0)", shop.box(3, 0), 5000);
        shop.pass();
        CHECK.due("what is over 5000 is not kept", shop.box(5, 0), 4900);
        CHECK.due("99 to 4900", shop.iceBox(5, 99), 4999);
    }

    private static void iceBoxRefuses() {
        CHECK.promise(6, "NO_SUCH if there is no such box");
        CHECK.noSuch("box 6", Shops::busy, shop -> shop.iceBox(6, 1));
        CHECK.noSuch("box -1", Shops::busy, shop -> shop.iceBox(-1, 1));
        CHECK.noSuch("box 6, grams 0", Shops::busy, shop -> shop.iceBox(6, 0));
        CHECK.noSuch("box -1, grams 5001", Shops::busy, shop -> shop.iceBox(-1, 5001));
        CHECK.promise(6, "BAD_VALUE if grams is out of range");
        CHECK.badValue("grams 0", Shops::busy, shop -> shop.iceBox(0, 0));
        CHECK.badValue("grams -1", Shops::busy, shop -> shop.iceBox(0, -1));
        CHECK.badValue("grams 5001", Shops::busy, shop -> shop.iceBox(5, 5001));
    }

    private static void iceTrayAddsIce() {
        CHECK.promise(7, "Adds ice to a tray");
        for (int tray = 0; tray < 5; tray++) {
            FishCounter shop = new FishCounter();
            shop.iceTray(tray, 7);
            shop.iceTray(tray, 5);
            for (int other = 0; other < 5; other++) {
                CHECK.due("tray(" + other + ", 0)", shop.tray(other, 0), other == tray ? 12 : 0);
            }
            for (int box = 0; box < 6; box++) {
                CHECK.due("box(" + box + ", 0)", shop.box(box, 0), 0);
            }
        }
    }

    private static void iceTrayTakesItsRanges() {
        CHECK.promise(7, "`tray`: 0 to 4");
        CHECK.rangeElseNoSuch(0, 4, Shops::busy, tray -> shop -> shop.iceTray(tray, 100));
        CHECK.promise(7, "`grams`: 1 to 5000");
        CHECK.rangeElseBadValue(1, 5000, Shops::busy, grams -> shop -> shop.iceTray(0, grams));
    }

    private static void iceTrayReturnsAtMost5000() {
        CHECK.promise(7, "Returns its ice then, which is at most 5000");
        FishCounter shop = new FishCounter();
        CHECK.due("1 to 0", shop.iceTray(4, 1), 1);
        CHECK.due("4998 to 1", shop.iceTray(4, 4998), 4999);
        CHECK.due("1 to 4999", shop.iceTray(4, 1), 5000);
        CHECK.due("1 to 5000", shop.iceTray(4, 1), 5000);
        CHECK.due("5000 to 5000", shop.iceTray(4, 5000), 5000);
        CHECK.due("5000 to 0", shop.iceTray(3, 5000), 5000);
        CHECK.due("4999 to 0", shop.iceTray(2, 4999), 4999);
        CHECK.due("2 to 4999", shop.iceTray(2, 2), 5000);
        CHECK.due("tray(2, 0)", shop.tray(2, 0), 5000);
        shop.pass();
        CHECK.due("what is over 5000 is not kept", shop.tray(4, 0), 4800);
        CHECK.due("199 to 4800", shop.iceTray(4, 199), 4999);
    }

    private static void iceTrayRefuses() {
        CHECK.promise(7, "NO_SUCH if there is no such tray");
        CHECK.noSuch("tray 5", Shops::busy, shop -> shop.iceTray(5, 1));
        CHECK.noSuch("tray -1", Shops::busy, shop -> shop.iceTray(-1, 1));
        CHECK.noSuch("tray 5, grams 0", Shops::busy, shop -> shop.iceTray(5, 0));
        CHECK.noSuch("tray -1, grams 5001", Shops::busy, shop -> shop.iceTray(-1, 5001));
        CHECK.promise(7, "BAD_VALUE if grams is out of range");
        CHECK.badValue("grams 0", Shops::busy, shop -> shop.iceTray(0, 0));
        CHECK.badValue("grams -1", Shops::busy, shop -> shop.iceTray(0, -1));
        CHECK.badValue("grams 5001", Shops::busy, shop -> shop.iceTray(4, 5001));
    }

    private static void toTrayPutsALotOntoATray() {
        CHECK.promise(8, "Puts a lot onto a tray");
        FishCounter shop = Shops.full();
        for (int tray = 0; tray < 5; tray++) {
            shop.toTray(3 * tray + 1, tray);
            CHECK.due("the lot has no box", shop.lot(3 * tray + 1, 3), Check.NONE);
            CHECK.due("the tray of the lot", shop.lot(3 * tray + 1, 4), tray);
            CHECK.due("the lot of the tray", shop.tray(tray, 1), 3 * tray + 1);
            CHECK.due("lots that stay in the box", shop.box(tray, 1), 2);
        }
        CHECK.due("lots, with all trays taken", shop.count(2), 16);
        shop.throwAway(4);
        shop.toTray(7, 1);
        CHECK.due("from a tray to another", shop.lot(7, 4), 1);
        CHECK.due("the tray that it left", shop.tray(2, 1), Check.NONE);
        CHECK.due("the tray where it came", shop.tray(1, 1), 7);
    }

    private static void toTrayTakesItsRanges() {
        CHECK.promise(8, "`lot`: number of the lot");
        CHECK.lotsElseNoSuch(new int[] {1, 2, 3, 4, 6}, new int[] {5, 7}, Shops::busy,
                lot -> shop -> shop.toTray(lot, 0));
        CHECK.promise(8, "`tray`: 0 to 4");
        CHECK.rangeElseNoSuch(0, 4, Shops::full, tray -> shop -> shop.toTray(16, tray));
    }

    private static void toTrayReturnsThePrice() {
        CHECK.promise(8, "Returns its price for a kilogram in the current hour");
        FishCounter shop = Shops.withLot(5, 1, 51);
        CHECK.due("without a cut", shop.toTray(1, 4), 1500);
        shop.setCut(0, 33);
        shop.setCut(1, 90);
        CHECK.due("with a cut of 33", shop.toTray(1, 0), 1005);
        shop.pass();
        CHECK.due("in the next hour, 42 fresh", shop.toTray(1, 1), 142);
        shop.setPrice(5, 1, 1);
        CHECK.due("a price below a cent", shop.toTray(1, 2), 0);
        shop.setPrice(5, 9999, 1);
        shop.setCut(1, 0);
        shop.deliver(5, 20000, 100, 0);
        CHECK.due("the greatest price", shop.toTray(2, 0), 9999);
    }

    private static void toTrayRefusesArguments() {
        CHECK.promise(8, "NO_SUCH if there is no such lot or tray");
        CHECK.noSuch("without any lot", FishCounter::new, shop -> shop.toTray(1, 0));
        CHECK.noSuch("a lot that is gone", Shops::busy, shop -> shop.toTray(5, 0));
        CHECK.noSuch("a lot that has not come yet", Shops::busy, shop -> shop.toTray(7, 0));
        CHECK.noSuch("tray 5", Shops::busy, shop -> shop.toTray(1, 5));
        CHECK.noSuch("tray -1", Shops::busy, shop -> shop.toTray(1, -1));
        CHECK.noSuch("tray -6", Shops::busy, shop -> shop.toTray(1, -6));
        CHECK.noSuch("both", Shops::busy, shop -> shop.toTray(5, 5));
        CHECK.noSuch("lot, before a tray with a lot", Shops::busy, shop -> shop.toTray(5, 1));
    }

    private static void toTrayRefusesATrayWithALot() {
        CHECK.promise(8, "NOT_POSSIBLE if a lot is on the tray already");
        CHECK.notPossible("another lot", Shops::busy, shop -> shop.toTray(1, 1));
        CHECK.notPossible("a lot from another tray", Shops::busy, shop -> shop.toTray(2, 4));
        CHECK.notPossible("the lot itself", Shops::busy, shop -> shop.toTray(2, 1));
        FishCounter shop = Shops.full();
        for (int tray = 0; tray < 5; tray++) {
            CHECK.holds("an empty tray is taken", shop.toTray(tray + 1, tray) > 0);
            CHECK.due("a tray with a lot", shop.toTray(16, tray), Check.NOT_POSSIBLE);
        }
        shop.throwAway(1);
        CHECK.holds("after the lot was thrown away", shop.toTray(16, 0) > 0);
        shop.order(1, 20000, 0, 9999);
        CHECK.holds("after the lot was sold", shop.toTray(8, 1) > 0);
        shop.toBox(3, 5);
        CHECK.holds("after the lot went into a box", shop.toTray(9, 2) > 0);
        shop.order(3, 1, 0, 9999);
        CHECK.due("after a part of the lot was sold", shop.toTray(10, 3), Check.NOT_POSSIBLE);
        shop.close();
        CHECK.holds("after the day was closed", shop.toTray(10, 3) > 0);
    }

    private static void fishAndIceAreUndoable() {
        CHECK.promise(5, "Undoable");
        CHECK.undone("deliver", Shops::stocked, shop -> shop.deliver(3, 1, 0, 3));
        CHECK.undone("the first deliver", FishCounter::new, shop -> shop.deliver(0, 20000, 100, 0));
        CHECK.promise(6, "Undoable");
        for (int i = 0; i < 6; i++) {
            int box = i;
            CHECK.undone("iceBox", Shops::stocked, shop -> shop.iceBox(box, 1));
        }
        CHECK.undone("iceBox up to 5000", Shops::stocked, shop -> shop.iceBox(0, 5000));
        CHECK.undone("iceBox of a box that has 5000", Shops::withIcyPlaces, shop -> shop.iceBox(0, 1));
        CHECK.promise(7, "Undoable");
        for (int i = 0; i < 5; i++) {
            int tray = i;
            CHECK.undone("iceTray", Shops::stocked, shop -> shop.iceTray(tray, 1));
        }
        CHECK.undone("iceTray up to 5000", Shops::stocked, shop -> shop.iceTray(1, 5000));
        CHECK.undone("iceTray of a tray that has 5000", Shops::withIcyPlaces, shop -> shop.iceTray(0, 1));
        CHECK.promise(8, "Undoable");
        CHECK.undone("toTray from a box", Shops::stocked, shop -> shop.toTray(1, 0));
        CHECK.undone("toTray from a tray", Shops::stocked, shop -> shop.toTray(2, 0));
    }
}
