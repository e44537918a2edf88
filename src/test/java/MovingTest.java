/** Promises 9 to 11: toBox, divide, throwAway. */
public final class MovingTest {
    private static final Check CHECK = new Check("MovingTest");

    public static void main(String[] args) {
        toBoxPutsALotIntoABox();
        toBoxTakesItsRanges();
        toBoxReturnsTheLotsInTheBox();
        toBoxRefusesArguments();
        toBoxRefusesItsOwnAndAFullBox();
        divideMakesANewLot();
        divideTakesItsRanges();
        divideReturnsTheNumber();
        divideRefusesArguments();
        divideRefusesAllOfALotAndAFullBox();
        divideRefusesASeventeenthLot();
        throwAwayTakesALotOut();
        throwAwayReturnsTheWeight();
        throwAwayRefuses();
        movingIsUndoable();
        CHECK.finish();
    }

    private static void toBoxPutsALotIntoABox() {
        CHECK.promise(9, "Puts a lot into a box");
        for (int box = 1; box < 6; box++) {
            FishCounter shop = Shops.withLot(0, 10, 90);
            shop.toBox(1, box);
            CHECK.due("from box 0 into box " + box, shop.lot(1, 3), box);
            CHECK.due("the box that it left", shop.box(0, 1), 0);
            CHECK.due("the lowest lot there", shop.box(0, 3), Check.NONE);
            CHECK.due("the lowest lot here", shop.box(box, 3), 1);
            shop.toTray(1, 2);
            shop.toBox(1, box);
            CHECK.due("from a tray into box " + box, shop.lot(1, 3), box);
            CHECK.due("it is on no tray", shop.lot(1, 4), Check.NONE);
            CHECK.due("the tray that it left", shop.tray(2, 1), Check.NONE);
        }
    }

    private static void toBoxTakesItsRanges() {
        CHECK.promise(9, "`lot`: number of the lot");
        CHECK.lotsElseNoSuch(new int[] {1, 2, 3, 4, 6}, new int[] {5, 7}, Shops::busy,
                lot -> shop -> shop.toBox(lot, 5));
        CHECK.promise(9, "`box`: 0 to 5");
        CHECK.rangeElseNoSuch(0, 5, Shops::busy, box -> shop -> shop.toBox(2, box));
    }

    private static void toBoxReturnsTheLotsInTheBox() {
        CHECK.promise(9, "Returns the number of lots in the box then");
        FishCounter shop = Shops.full();
        shop.throwAway(1);
        shop.throwAway(2);
        shop.throwAway(3);
        CHECK.due("into an empty box", shop.toBox(4, 0), 1);
        CHECK.due("into a box with a lot", shop.toBox(5, 0), 2);
        shop.toTray(7, 0);
        CHECK.due("into a box with 2 lots", shop.toBox(7, 0), 3);
        CHECK.due("into the box that has lot 16", shop.toBox(7, 5), 2);
    }

    private static void toBoxRefusesArguments() {
        CHECK.promise(9, "NO_SUCH if there is no such lot or box");
        CHECK.noSuch("without any lot", FishCounter::new, shop -> shop.toBox(1, 0));
        CHECK.noSuch("a lot that is gone", Shops::busy, shop -> shop.toBox(5, 0));
        CHECK.noSuch("a lot that has not come yet", Shops::busy, shop -> shop.toBox(7, 0));
        CHECK.noSuch("box 6", Shops::busy, shop -> shop.toBox(1, 6));
        CHECK.noSuch("box -1", Shops::busy, shop -> shop.toBox(1, -1));
        CHECK.noSuch("box -6 for a lot on a tray", Shops::busy, shop -> shop.toBox(2, -6));
        CHECK.noSuch("both", Shops::busy, shop -> shop.toBox(5, 6));
        CHECK.noSuch("lot, before a full box", Shops::withFullBox, shop -> shop.toBox(5, 0));
    }

    private static void toBoxRefusesItsOwnAndAFullBox() {
        CHECK.promise(9, "NOT_POSSIBLE if the lot is in this box, or if the box has 3 lots");
        CHECK.notPossible("in this box", Shops::busy, shop -> shop.toBox(1, 0));
        CHECK.notPossible("in this box, which has 3 lots", Shops::withFullBox, shop -> shop.toBox(2, 0));
        CHECK.notPossible("3 lots, from a box", Shops::withFullBox, shop -> shop.toBox(4, 0));
        CHECK.notPossible("3 lots, from a tray", Shops::withFullBoxAndTray, shop -> shop.toBox(4, 0));
        for (int box = 0; box < 5; box++) {
            FishCounter shop = Shops.full();
            CHECK.due("3 lots in box " + box, shop.toBox(16, box), Check.NOT_POSSIBLE);
            shop.toTray(3 * box + 2, 0);
            CHECK.due("2 lots in box " + box, shop.toBox(16, box), 3);
            CHECK.due("the way back is barred", shop.toBox(3 * box + 2, box), Check.NOT_POSSIBLE);
        }
    }

    private static void divideMakesANewLot() {
        CHECK.promise(10, "Divides a lot: some grams of it become a new lot with the same kind and freshness,"
                + " in a box");
        FishCounter shop = Shops.withLot(3, 20000, 77);
        shop.divide(1, 19999, 5);
        int[][] due = {{3, 1, 77, 0, -6, 1408, 1}, {3, 19999, 77, 5, -6, 1408, 28158}};
        for (int lot = 1; lot <= 2; lot++) {
            for (int what = 0; what < 7; what++) {
                CHECK.due("lot(" + lot + ", " + what + ")", shop.lot(lot, what), due[lot - 1][what]);
            }
        }
        int[] counts = {0, 0, 2, 20000, 20000, 0, 0, 14000, 0};
        for (int what = 0; what < counts.length; what++) {
            CHECK.due("count(" + what + ")", shop.count(what), counts[what]);
        }
        shop.toTray(2, 4);
        shop.divide(2, 1, 0);
        CHECK.due("a lot on a tray stays there", shop.lot(2, 4), 4);
        CHECK.due("its weight", shop.lot(2, 1), 19998);
        CHECK.due("its part goes into the box", shop.lot(3, 3), 0);
        CHECK.due("and is on no tray", shop.lot(3, 4), Check.NONE);
        shop.pass();
        CHECK.due("the parts get less fresh by themselves", shop.lot(2, 2), 68);
        CHECK.due("the parts get less fresh by themselves", shop.lot(3, 2), 71);
    }

    private static void divideTakesItsRanges() {
        CHECK.promise(10, "`lot`: number of the lot");
        CHECK.lotsElseNoSuch(new int[] {1, 2, 3, 4, 6}, new int[] {5, 7}, Shops::busy,
                lot -> shop -> shop.divide(lot, 1, 5));
        CHECK.promise(10, "`grams`: 1 to 19999");
        CHECK.rangeElseBadValue(1, 19999, () -> Shops.withLot(0, 20000, 50), grams -> shop -> shop.divide(1, grams, 0));
        CHECK.promise(10, "`box`: 0 to 5");
        CHECK.rangeElseNoSuch(0, 5, Shops::busy, box -> shop -> shop.divide(1, 100, box));
    }

    private static void divideReturnsTheNumber() {
        CHECK.promise(10, "Returns the number of the new lot");
        FishCounter shop = Shops.withLot(0, 20000, 50);
        for (int number = 2; number <= 16; number++) {
            CHECK.due("lot " + number, shop.divide(number - 1, 20001 - number, number % 6), number);
        }
        shop.throwAway(15);
        CHECK.due("the number after one that is gone", shop.divide(16, 1, 5), 17);
        shop.throwAway(17);
        CHECK.due("the number of a lot that is gone is not used again", shop.divide(16, 1, 5), 18);
        shop.undo();
        CHECK.due("undo() brings the number back", shop.divide(16, 2, 5), 18);
    }

    private static void divideRefusesArguments() {
        CHECK.promise(10, "NO_SUCH if there is no such lot or box");
        CHECK.noSuch("without any lot", FishCounter::new, shop -> shop.divide(1, 1, 0));
        CHECK.noSuch("a lot that is gone", Shops::busy, shop -> shop.divide(5, 1, 0));
        CHECK.noSuch("a lot that has not come yet", Shops::busy, shop -> shop.divide(7, 1, 0));
        CHECK.noSuch("box 6", Shops::busy, shop -> shop.divide(1, 1, 6));
        CHECK.noSuch("box -1", Shops::busy, shop -> shop.divide(1, 1, -1));
        CHECK.noSuch("lot and grams", Shops::busy, shop -> shop.divide(5, 0, 0));
        CHECK.noSuch("box and grams", Shops::busy, shop -> shop.divide(1, 20000, 6));
        CHECK.noSuch("box, before all of the lot", Shops::busy, shop -> shop.divide(1, 1000, 6));
        CHECK.noSuch("lot, before a full box", Shops::withFullBox, shop -> shop.divide(5, 1, 0));
        CHECK.noSuch("lot, before 16 lots", Shops::full, shop -> shop.divide(17, 1, 5));
        CHECK.promise(10, "BAD_VALUE if grams is out of range");
        CHECK.badValue("grams 0", Shops::busy, shop -> shop.divide(1, 0, 0));
        CHECK.badValue("grams -1", Shops::busy, shop -> shop.divide(1, -1, 0));
        CHECK.badValue("grams 20000, all of the lot", () -> Shops.withLot(0, 20000, 50),
                shop -> shop.divide(1, 20000, 0));
        CHECK.badValue("grams 20000, more than the lot", Shops::busy, shop -> shop.divide(1, 20000, 0));
        CHECK.badValue("grams, before a full box", Shops::withFullBox, shop -> shop.divide(1, 0, 0));
        CHECK.badValue("grams, before 16 lots", Shops::full, shop -> shop.divide(1, 20000, 5));
    }

    private static void divideRefusesAllOfALotAndAFullBox() {
        CHECK.promise(10, "NOT_POSSIBLE if grams is not less than the weight of the lot,"
                + " or if the box has 3 lots");
        CHECK.taken("a gram less than the weight", Shops::busy, shop -> shop.divide(1, 999, 5));
        CHECK.notPossible("all of the lot", Shops::busy, shop -> shop.divide(1, 1000, 5));
        CHECK.notPossible("a gram more than the weight", Shops::busy, shop -> shop.divide(1, 1001, 5));
        CHECK.notPossible("19999", Shops::busy, shop -> shop.divide(1, 19999, 5));
        CHECK.notPossible("a lot of a gram", () -> Shops.withLot(0, 1, 50), shop -> shop.divide(1, 1, 5));
        CHECK.taken("a lot of 2 grams", () -> Shops.withLot(0, 2, 50), shop -> shop.divide(1, 1, 0));
        CHECK.notPossible("3 lots, the divided one among them", Shops::withFullBox, shop -> shop.divide(1, 1, 0));
        CHECK.notPossible("3 lots", Shops::withFullBox, shop -> shop.divide(4, 1, 0));
        CHECK.notPossible("3 lots, from a tray", Shops::withFullBoxAndTray, shop -> shop.divide(4, 1, 0));
        CHECK.notPossible("3 lots, before 16 lots", Shops::full, shop -> shop.divide(1, 1, 0));
        CHECK.notPossible("all of the lot, before 16 lots", Shops::full, shop -> shop.divide(1, 10, 5));
        FishCounter shop = Shops.withFullBox();
        CHECK.due("a second lot in the box", shop.divide(4, 1, 1), 5);
        CHECK.due("a third lot in the box", shop.divide(4, 1, 1), 6);
        CHECK.due("a fourth lot in the box", shop.divide(4, 1, 1), Check.NOT_POSSIBLE);
        CHECK.due("another box", shop.divide(4, 1, 2), 7);
    }

    private static void divideRefusesASeventeenthLot() {
        CHECK.promise(10, "LIMIT if there are 16 lots");
        CHECK.limit("16 lots", Shops::full, shop -> shop.divide(1, 9, 5));
        CHECK.limit("16 lots, the lot's own box", Shops::full, shop -> shop.divide(16, 159, 5));
        FishCounter shop = Shops.full();
        shop.throwAway(2);
        CHECK.due("15 lots", shop.divide(1, 5, 0), 17);
        CHECK.due("16 lots again", shop.divide(1, 1, 5), Check.LIMIT);
        CHECK.due("the lot has its weight", shop.lot(1, 1), 5);
    }

    private static void throwAwayTakesALotOut() {
        CHECK.promise(11, "Throws a lot away");
        for (int lot = 1; lot <= 16; lot++) {
            FishCounter shop = Shops.full();
            shop.throwAway(lot);
            for (int other = 1; other <= 16; other++) {
                CHECK.due("the weight of lot " + other, shop.lot(other, 1), other == lot ? Check.NO_SUCH : 10 * other);
                CHECK.due("the freshness of lot " + other, shop.lot(other, 2),
                        other == lot ? Check.NO_SUCH : 91 - other);
            }
            int[] counts = {0, 0, 15, 1360 - 10 * lot, 1360, 0, 10 * lot};
            for (int what = 0; what < counts.length; what++) {
                CHECK.due("count(" + what + ")", shop.count(what), counts[what]);
            }
            CHECK.due("lots in its box", shop.box((lot - 1) / 3, 1), lot == 16 ? 0 : 2);
        }
        FishCounter shop = Shops.stocked();
        shop.throwAway(2);
        CHECK.due("a tray without its lot", shop.tray(1, 1), Check.NONE);
        CHECK.due("it keeps its ice", shop.tray(1, 0), 250);
        shop.throwAway(1);
        CHECK.due("a box without its lot", shop.box(0, 3), Check.NONE);
        CHECK.due("it keeps its ice", shop.box(0, 0), 150);
    }

    private static void throwAwayReturnsTheWeight() {
        CHECK.promise(11, "`lot`: number of the lot");
        CHECK.lotsElseNoSuch(new int[] {1, 2, 3, 4, 6}, new int[] {5, 7}, Shops::busy,
                lot -> shop -> shop.throwAway(lot));
        CHECK.promise(11, "Returns its weight");
        FishCounter shop = new FishCounter();
        shop.deliver(0, 20000, 100, 0);
        shop.deliver(0, 1, 0, 0);
        shop.deliver(0, 500, 50, 0);
        shop.divide(3, 150, 1);
        shop.toTray(3, 0);
        shop.order(0, 50, 0, 9999);
        CHECK.due("20000 grams", shop.throwAway(1), 20000);
        CHECK.due("a gram", shop.throwAway(2), 1);
        CHECK.due("what is left after a sale", shop.throwAway(3), 300);
        CHECK.due("a part", shop.throwAway(4), 150);
        CHECK.due("lots", shop.count(2), 0);
        CHECK.due("thrown away", shop.count(6), 20451);
    }

    private static void throwAwayRefuses() {
        CHECK.promise(11, "NO_SUCH if there is no such lot");
        CHECK.noSuch("without any lot", FishCounter::new, shop -> shop.throwAway(1));
        CHECK.noSuch("the lot that was thrown away", Shops::busy, shop -> shop.throwAway(5));
        CHECK.noSuch("a lot that has not come yet", Shops::full, shop -> shop.throwAway(17));
        FishCounter shop = Shops.withLot(0, 10, 90);
        CHECK.due("once", shop.throwAway(1), 10);
        CHECK.due("twice", shop.throwAway(1), Check.NO_SUCH);
        shop.undo();
        CHECK.due("once more after undo()", shop.throwAway(1), 10);
        shop.deliver(0, 10, 90, 0);
        shop.toTray(2, 0);
        shop.order(0, 10, 0, 9999);
        CHECK.due("the lot that was sold", shop.throwAway(2), Check.NO_SUCH);
    }

    private static void movingIsUndoable() {
        CHECK.promise(9, "Undoable");
        CHECK.undone("toBox from a box", Shops::stocked, shop -> shop.toBox(1, 5));
        CHECK.undone("toBox from a tray", Shops::stocked, shop -> shop.toBox(3, 0));
        CHECK.promise(10, "Undoable");
        CHECK.undone("divide", Shops::stocked, shop -> shop.divide(1, 999, 0));
        CHECK.undone("divide of a lot on a tray", Shops::stocked, shop -> shop.divide(2, 1, 5));
        CHECK.promise(11, "Undoable");
        for (int i = 1; i <= 5; i++) {
            int lot = i;
            CHECK.undone("throwAway", Shops::stocked, shop -> shop.throwAway(lot));
        }
        CHECK.undone("throwAway of the only lot", () -> Shops.withLot(0, 20000, 0), shop -> shop.throwAway(1));
    }
}
