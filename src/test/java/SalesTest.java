/** Promises 12 and 13: order, pass. */
public final class SalesTest {
    private static final Check CHECK = new Check("SalesTest");

    public static void main(String[] args) {
        CHECK.promise(12, "Serves an order from the trays: lots of the kind that are sold,"
                + " are at least so fresh, and have in the current hour at most such a price,"
                + " the least fresh first, of several the lowest number");
        orderSellsOnlyFromTheTrays();
        orderSellsOnlyTheKind();
        orderSellsOnlyFromTheLimitOn();
        orderSellsOnlyWhatIsFreshEnough();
        orderSellsOnlyWhatIsCheapEnough();
        orderSellsTheLeastFreshFirst();
        orderSellsTheLowestNumberOfSeveral();
        orderSellsWhatIsStillWanted();
        orderTakesMoneyForEachLotByItself();
        orderTakesItsRanges();
        orderReturnsTheGrams();
        orderRefuses();
        passLetsAnHourPass();
        passMeltsTheIce();
        passReturnsTheHour();
        passRefusesInTheHourTen();
        salesAndHoursAreUndoable();
        CHECK.finish();
    }

    /** Lots 1 to 5 of 100 grams each on the trays 0 to 4. */
    private static FishCounter withTrays(int kind, int... fresh) {
        FishCounter shop = new FishCounter();
        for (int i = 0; i < fresh.length; i++) {
            shop.deliver(kind, 100, fresh[i], i);
            shop.toTray(i + 1, i);
        }
        return shop;
    }

    private static void gramsDue(FishCounter shop, int... grams) {
        for (int i = 0; i < grams.length; i++) {
            CHECK.due("lot(" + (i + 1) + ", 1)", shop.lot(i + 1, 1), grams[i]);
        }
    }

    private static void orderSellsOnlyFromTheTrays() {
        CHECK.due("without any lot", new FishCounter().order(0, 1, 0, 9999), 0);
        FishCounter full = Shops.full();
        CHECK.due("sixteen lots in boxes", full.order(0, 20000, 0, 9999), 0);
        CHECK.due("there is", full.count(3), 1360);
        for (int tray = 0; tray < 5; tray++) {
            FishCounter shop = Shops.withFullBox();
            shop.toTray(1, tray);
            CHECK.due("from tray " + tray, shop.order(0, 20000, 0, 9999), 100);
            CHECK.due("the tray is empty then", shop.tray(tray, 1), Check.NONE);
        }
        FishCounter shop = withTrays(0, 50);
        shop.deliver(0, 100, 40, 5);
        CHECK.due("not from the box of a less fresh one", shop.order(0, 20000, 0, 9999), 100);
        shop.toTray(2, 0);
        shop.toBox(2, 0);
        CHECK.due("not when it is back in a box", shop.order(0, 1, 0, 9999), 0);
    }

    private static void orderSellsOnlyTheKind() {
        for (int kind = 0; kind < 6; kind++) {
            FishCounter shop = withTrays(kind, 50);
            for (int other = 0; other < 6; other++) {
                CHECK.due("kind " + other + " of kind " + kind, shop.order(other, 1, 0, 9999), other == kind ? 1 : 0);
            }
        }
    }

    private static void orderSellsOnlyFromTheLimitOn() {
        FishCounter shop = withTrays(0, 29, 30, 31);
        CHECK.due("below the limit, at it, above it", shop.order(0, 20000, 0, 9999), 200);
        gramsDue(shop, 100, Check.NO_SUCH, Check.NO_SUCH);
        CHECK.due("below the limit, but fresh enough", shop.order(0, 1, 29, 9999), 0);
        shop.setMelting(0, 29);
        CHECK.due("at a lower limit", shop.order(0, 1, 0, 9999), 1);
        FishCounter none = withTrays(0, 0);
        none.setMelting(0, 0);
        CHECK.due("limit 0, 0 fresh", none.order(0, 1, 0, 9999), 1);
        FishCounter best = withTrays(0, 99, 100);
        best.setMelting(0, 100);
        CHECK.due("limit 100", best.order(0, 20000, 0, 9999), 100);
        gramsDue(best, 100, Check.NO_SUCH);
    }

    private static void orderSellsOnlyWhatIsFreshEnough() {
        FishCounter shop = withTrays(0, 59, 60, 61);
        CHECK.due("at least 62", shop.order(0, 20000, 62, 9999), 0);
        CHECK.due("at least 61", shop.order(0, 1, 61, 9999), 1);
        gramsDue(shop, 100, 100, 99);
        CHECK.due("at least 60", shop.order(0, 20000, 60, 9999), 199);
        gramsDue(shop, 100, Check.NO_SUCH, Check.NO_SUCH);
        FishCounter best = withTrays(0, 100, 99);
        CHECK.due("at least 100", best.order(0, 20000, 100, 9999), 100);
        gramsDue(best, Check.NO_SUCH, 100);
    }

    private static void orderSellsOnlyWhatIsCheapEnough() {
        FishCounter shop = withTrays(0, 50, 60);
        CHECK.due("at most 749", shop.order(0, 20000, 0, 749), 0);
        CHECK.due("at most 750", shop.order(0, 1, 0, 750), 1);
        CHECK.due("at most 799", shop.order(0, 20000, 0, 799), 99);
        gramsDue(shop, Check.NO_SUCH, 100);
        shop.setCut(0, 50);
        CHECK.due("at most 399, with a cut", shop.order(0, 1, 0, 399), 0);
        CHECK.due("at most 400, with a cut", shop.order(0, 1, 0, 400), 1);
        shop.pass();
        CHECK.due("at most 749, 51 fresh, in the next hour", shop.order(0, 1, 0, 749), 0);
        CHECK.due("at most 750, 51 fresh, in the next hour", shop.order(0, 1, 0, 750), 1);
        shop.setPrice(0, 1, 1);
        CHECK.due("at most 1, for nothing", shop.order(0, 1, 0, 1), 1);
        FishCounter dear = withTrays(0, 100);
        dear.setPrice(0, 9999, 1);
        CHECK.due("at most 9998", dear.order(0, 1, 0, 9998), 0);
        CHECK.due("at most 9999", dear.order(0, 1, 0, 9999), 1);
    }

    private static void orderSellsTheLeastFreshFirst() {
        FishCounter shop = withTrays(3, 44, 42, 40, 41, 43);
        CHECK.due("from all trays", shop.order(3, 450, 0, 9999), 450);
        gramsDue(shop, 50, Check.NO_SUCH, Check.NO_SUCH, Check.NO_SUCH, Check.NO_SUCH);
        shop.undo();
        CHECK.due("from the least fresh one", shop.order(3, 100, 0, 9999), 100);
        gramsDue(shop, 100, 100, Check.NO_SUCH, 100, 100);
        shop.undo();
        CHECK.due("from the least fresh of those that fit", shop.order(3, 150, 42, 9999), 150);
        gramsDue(shop, 100, Check.NO_SUCH, 100, 100, 50);
        shop.undo();
        shop.toBox(3, 5);
        CHECK.due("from the least fresh of those on trays", shop.order(3, 1, 0, 9999), 1);
        gramsDue(shop, 100, 100, 100, 99, 100);
    }

    private static void orderSellsTheLowestNumberOfSeveral() {
        FishCounter shop = new FishCounter();
        for (int i = 0; i < 5; i++) {
            shop.deliver(0, 100, 50, i);
        }
        for (int lot = 5; lot >= 1; lot--) {
            shop.toTray(lot, 5 - lot);
        }
        CHECK.due("of five equal ones", shop.order(0, 350, 50, 9999), 350);
        gramsDue(shop, Check.NO_SUCH, Check.NO_SUCH, Check.NO_SUCH, 50, 100);
        FishCounter mixed = withTrays(0, 60, 50, 60, 50);
        CHECK.due("of two and two", mixed.order(0, 250, 0, 9999), 250);
        gramsDue(mixed, 50, Check.NO_SUCH, 100, Check.NO_SUCH);
    }

    private static void orderSellsWhatIsStillWanted() {
        CHECK.promise(12, "of each as much as is still wanted");
        for (int wanted : new int[] {1, 99, 100, 101, 199, 200, 201, 299, 300}) {
            FishCounter shop = withTrays(0, 50, 60, 70);
            CHECK.due("order of " + wanted, shop.order(0, wanted, 0, 9999), wanted);
            int first = Math.min(100, wanted);
            int second = Math.min(100, wanted - first);
            int[] sold = {first, second, wanted - first - second};
            for (int i = 0; i < 3; i++) {
                int left = sold[i] == 100 ? Check.NO_SUCH : 100 - sold[i];
                CHECK.due("order of " + wanted + ", lot " + (i + 1), shop.lot(i + 1, 1), left);
            }
            CHECK.due("sold", shop.count(5), wanted);
            CHECK.due("there is", shop.count(3), 300 - wanted);
        }
        FishCounter shop = withTrays(0, 50, 60, 70);
        CHECK.due("a gram more than there is", shop.order(0, 301, 0, 9999), 300);
        CHECK.due("lots", shop.count(2), 0);
        FishCounter heavy = new FishCounter();
        heavy.deliver(0, 20000, 50, 0);
        heavy.toTray(1, 0);
        CHECK.due("all of the greatest lot", heavy.order(0, 20000, 0, 9999), 20000);
        CHECK.due("lots", heavy.count(2), 0);
    }

    private static void orderTakesMoneyForEachLotByItself() {
        CHECK.promise(12, "What is taken for it is computed for each lot by itself");
        FishCounter shop = new FishCounter();
        shop.setPrice(0, 999, 1);
        for (int i = 0; i < 5; i++) {
            shop.deliver(0, 3, 100, i);
            shop.toTray(i + 1, i);
        }
        CHECK.due("order(0, 6, 100, 999)", shop.order(0, 6, 100, 999), 6);
        CHECK.due("taken: 2 and 2, not 5", shop.count(8), 4);
        CHECK.due("order(0, 1, 100, 999)", shop.order(0, 1, 100, 999), 1);
        CHECK.due("taken: nothing for a gram", shop.count(8), 4);
        CHECK.due("order(0, 8, 100, 999)", shop.order(0, 8, 100, 999), 8);
        CHECK.due("taken: 1, 2 and 2 more", shop.count(8), 9);
        FishCounter mixed = withTrays(5, 51, 99);
        mixed.setCut(0, 7);
        // 2000 * 75 / 100 * 93 / 100 is 1395, and 2000 * 99 / 100 * 93 / 100 is 1841.
        CHECK.due("order(5, 177, 0, 9999)", mixed.order(5, 177, 0, 9999), 177);
        CHECK.due("taken, each at its own price", mixed.count(8), 139 + 141);
    }

    private static void orderTakesItsRanges() {
        CHECK.promise(12, "`kind`: 0 to 5");
        CHECK.rangeElseNoSuch(0, 5, Shops::busy, kind -> shop -> shop.order(kind, 10, 0, 9999));
        CHECK.promise(12, "`grams`: 1 to 20000");
        CHECK.rangeElseBadValue(1, 20000, Shops::busy, grams -> shop -> shop.order(1, grams, 0, 9999));
        CHECK.promise(12, "`fresh`: 0 to 100");
        CHECK.rangeElseBadValue(0, 100, Shops::busy, fresh -> shop -> shop.order(1, 10, fresh, 9999));
        CHECK.promise(12, "`price`: 1 to 9999: the greatest price for a kilogram");
        CHECK.rangeElseBadValue(1, 9999, Shops::busy, price -> shop -> shop.order(1, 10, 0, price));
    }

    private static void orderReturnsTheGrams() {
        CHECK.promise(12, "Returns the grams that are sold, 0 if none are");
        FishCounter shop = withTrays(0, 50);
        CHECK.due("all that is wanted", shop.order(0, 60, 0, 9999), 60);
        CHECK.due("all that there is", shop.order(0, 60, 0, 9999), 40);
        CHECK.due("none is left", shop.order(0, 60, 0, 9999), 0);
        CHECK.due("none: sold", shop.count(5), 100);
        CHECK.due("none: taken", shop.count(8), 45 + 30);
        CHECK.due("none: a state is saved all the same", shop.undo(), 4);
        CHECK.due("the state before: lots", shop.count(2), 0);
    }

    private static void orderRefuses() {
        CHECK.promise(12, "NO_SUCH if there is no such kind");
        CHECK.noSuch("kind 6", Shops::busy, shop -> shop.order(6, 1, 0, 9999));
        CHECK.noSuch("kind -1", Shops::busy, shop -> shop.order(-1, 1, 0, 9999));
        CHECK.noSuch("kind and grams", Shops::busy, shop -> shop.order(6, 0, 0, 9999));
        CHECK.noSuch("kind and fresh", Shops::busy, shop -> shop.order(6, 1, 101, 9999));
        CHECK.noSuch("kind and price", Shops::busy, shop -> shop.order(-1, 1, 0, 0));
        CHECK.noSuch("all", Shops::busy, shop -> shop.order(-1, 20001, -1, 10000));
        CHECK.promise(12, "BAD_VALUE if another argument is out of range");
        CHECK.badValue("grams 0", Shops::busy, shop -> shop.order(1, 0, 0, 9999));
        CHECK.badValue("grams 20001", Shops::busy, shop -> shop.order(1, 20001, 0, 9999));
        CHECK.badValue("fresh -1", Shops::busy, shop -> shop.order(1, 1, -1, 9999));
        CHECK.badValue("fresh 101", Shops::busy, shop -> shop.order(1, 1, 101, 9999));
        CHECK.badValue("price 0", Shops::busy, shop -> shop.order(1, 1, 0, 0));
        CHECK.badValue("price 10000", Shops::busy, shop -> shop.order(1, 1, 0, 10000));
        CHECK.badValue("all of them", Shops::busy, shop -> shop.order(1, 0, 101, 10000));
        CHECK.badValue("without any lot", FishCounter::new, shop -> shop.order(0, 0, 0, 9999));
    }

    private static void passLetsAnHourPass() {
        CHECK.promise(13, "Lets an hour pass");
        FishCounter shop = new FishCounter();
        shop.setMelting(0, 30);
        for (int i = 0; i < 4; i++) {
            shop.deliver(i, 10, 50, i);
        }
        shop.iceBox(0, 1);
        shop.toTray(3, 0);
        shop.toTray(4, 4);
        shop.iceTray(0, 1);
        int[] loss = {1, 6, 2, 9};
        for (int hour = 1; hour <= 10; hour++) {
            shop.pass();
            CHECK.due("count(1)", shop.count(1), hour);
            CHECK.due("count(0)", shop.count(0), 0);
            for (int i = 0; i < 4; i++) {
                CHECK.due("the freshness of lot " + (i + 1), shop.lot(i + 1, 2), Math.max(0, 50 - hour * loss[i]));
            }
        }
        FishCounter full = Shops.full();
        full.pass();
        for (int lot = 1; lot <= 16; lot++) {
            CHECK.due("the freshness of lot " + lot + " of sixteen", full.lot(lot, 2), 85 - lot);
            CHECK.due("the weight of lot " + lot + " of sixteen", full.lot(lot, 1), 10 * lot);
        }
        FishCounter empty = new FishCounter();
        empty.pass();
        CHECK.due("without any lot", empty.count(1), 1);
    }

    private static void passMeltsTheIce() {
        CHECK.promise(13, "Lets an hour pass");
        FishCounter shop = new FishCounter();
        for (int box = 0; box < 6; box++) {
            shop.iceBox(box, 99 + box);
        }
        for (int tray = 0; tray < 5; tray++) {
            shop.iceTray(tray, 199 + tray);
        }
        shop.pass();
        for (int box = 0; box < 6; box++) {
            CHECK.due("box(" + box + ", 0)", shop.box(box, 0), Math.max(0, box - 1));
        }
        for (int tray = 0; tray < 5; tray++) {
            CHECK.due("tray(" + tray + ", 0)", shop.tray(tray, 0), Math.max(0, tray - 1));
        }
    }

    private static void passReturnsTheHour() {
        CHECK.promise(13, "Returns the current hour then");
        FishCounter shop = new FishCounter();
        for (int hour = 1; hour <= 10; hour++) {
            CHECK.due("pass()", shop.pass(), hour);
        }
        shop.undo();
        CHECK.due("after undo()", shop.pass(), 10);
        shop.close();
        CHECK.due("on the next day", shop.pass(), 1);
    }

    private static void passRefusesInTheHourTen() {
        CHECK.promise(13, "NOT_POSSIBLE in the hour 10");
        CHECK.notPossible("pass()", Shops::inTheEvening, shop -> shop.pass());
        FishCounter shop = Shops.inTheEvening();
        shop.undo();
        CHECK.due("in the hour 9", shop.pass(), 10);
        CHECK.due("in the hour 10", shop.pass(), Check.NOT_POSSIBLE);
        CHECK.due("and again", shop.pass(), Check.NOT_POSSIBLE);
        CHECK.due("the hour stays", shop.count(1), 10);
    }

    private static void salesAndHoursAreUndoable() {
        CHECK.promise(12, "Undoable");
        CHECK.undone("order of a part", Shops::stocked, shop -> shop.order(1, 100, 0, 9999));
        CHECK.undone("order of a lot", Shops::stocked, shop -> shop.order(1, 20000, 0, 9999));
        CHECK.undone("order of nothing", Shops::stocked, shop -> shop.order(5, 1, 100, 1));
        CHECK.undone("order in a new shop", FishCounter::new, shop -> shop.order(0, 1, 0, 1));
        CHECK.promise(13, "Undoable");
        CHECK.undone("pass", Shops::stocked, shop -> shop.pass());
        CHECK.undone("pass in a new shop", FishCounter::new, shop -> shop.pass());
    }
}
