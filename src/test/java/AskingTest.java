/** Promises 15 to 20: count, lot, box, tray, kind, cut. */
public final class AskingTest {
    private static final Check CHECK = new Check("AskingTest");

    public static void main(String[] args) {
        countTellsEachNumber();
        countOfEmptyAndFullShops();
        countRefuses();
        lotTellsEachNumber();
        lotTellsRoundedPrices();
        lotRefuses();
        boxTellsEachNumber();
        boxWithUpToThreeLots();
        boxRefuses();
        trayTellsEachNumber();
        trayWithAndWithoutALot();
        trayRefuses();
        kindTellsEachNumber();
        kindTellsTheFreshestLot();
        kindRefuses();
        cutTellsTheCut();
        askingChangesNothing();
        CHECK.finish();
    }

    /** Day 1, hour 2; lot 2 sold, lot 4 thrown away, lots 1, 3, 5, 6 left. */
    private static FishCounter busyShop() {
        FishCounter shop = new FishCounter();
        shop.close();
        shop.deliver(2, 1500, 95, 0);
        shop.deliver(2, 200, 90, 0);
        shop.deliver(3, 777, 85, 1);
        shop.deliver(0, 40, 50, 1);
        shop.deliver(2, 3000, 99, 1);
        shop.iceBox(0, 1000);
        shop.toTray(2, 3);
        shop.order(2, 200, 0, 9999);
        shop.throwAway(4);
        shop.toTray(1, 3);
        shop.iceTray(3, 450);
        shop.divide(5, 500, 0);
        shop.setCut(2, 15);
        shop.pass();
        shop.pass();
        return shop;
    }

    private static void countTellsEachNumber() {
        CHECK.promise(15, "`what`: 0 for the current day, 1 for the current hour, 2 for the number of lots,"
                + " 3 for the grams that there are, 4 for the grams that came, 5 for those that were sold,"
                + " 6 for those that were thrown away, 7 for the money that was paid,"
                + " 8 for the money that was taken, 9 for the melting, 10 for the limit");
        CHECK.rangeElseBadValue(0, 10, Shops::busy, what -> shop -> shop.count(what));
        FishCounter shop = busyShop();
        shop.setMelting(7, 55);
        long came = 1500 + 200 + 777 + 40 + 3000;
        long paid = 900 + 120 + 543 + 16 + 1800;
        long[] due = {1, 2, 4, came - 240, came, 200, 40, paid, 200L * (1400 * 95 / 100) / 1000, 7, 55};
        for (int what = 0; what <= 10; what++) {
            CHECK.due("count(" + what + ")", shop.count(what), due[what]);
        }
    }

    private static void countOfEmptyAndFullShops() {
        CHECK.promise(15, "Returns the number");
        FishCounter shop = new FishCounter();
        long[] empty = {0, 0, 0, 0, 0, 0, 0, 0, 0, 100, 30};
        for (int what = 0; what <= 10; what++) {
            CHECK.due("new: count(" + what + ")", shop.count(what), empty[what]);
        }
        shop.setPrice(0, 9999, 9999);
        for (int i = 0; i < 16; i++) {
            shop.deliver(0, 20000, 100, i / 3);
        }
        long[] full = {0, 0, 16, 320000, 320000, 0, 0, 16 * 199980, 0, 100, 30};
        for (int what = 0; what <= 10; what++) {
            CHECK.due("full: count(" + what + ")", shop.count(what), full[what]);
        }
    }

    private static void countRefuses() {
        CHECK.promise(15, "BAD_VALUE if what is out of range");
        CHECK.badValue("count(-1)", Shops::busy, shop -> shop.count(-1));
        CHECK.badValue("count(11)", Shops::busy, shop -> shop.count(11));
        CHECK.badValue("count(11) of a new shop", FishCounter::new, shop -> shop.count(11));
    }

    private static void lotTellsEachNumber() {
        CHECK.promise(16, "`what`: 0 for its kind, 1 for its weight, 2 for its freshness,"
                + " 3 for its box (NONE on a tray), 4 for its tray (NONE in a box),"
                + " 5 for its price for a kilogram in the current hour,"
                + " 6 for what all of it costs in the current hour");
        CHECK.rangeElseBadValue(0, 6, Shops::busy, what -> shop -> shop.lot(1, what));
        CHECK.rangeElseBadValue(0, 6, Shops::busy, what -> shop -> shop.lot(2, what));
        FishCounter shop = busyShop();
        int[][] due = {
            {1, 2, 1500, 91, -6, 3, 1130, 1695},
            {3, 3, 777, 73, 1, -6, 1169, 908},
            {5, 2, 2500, 87, 1, -6, 1106, 2765},
            {6, 2, 500, 97, 0, -6, 1166, 583},
        };
        for (int[] row : due) {
            for (int what = 0; what < 7; what++) {
                CHECK.due("lot(" + row[0] + ", " + what + ")", shop.lot(row[0], what), row[what + 1]);
            }
        }
    }

    private static void lotTellsRoundedPrices() {
        CHECK.promise(16, "Returns the number");
        FishCounter shop = new FishCounter();
        shop.setPrice(0, 999, 1);
        shop.setCut(0, 9);
        shop.deliver(0, 999, 51, 0);
        // 999 * 75 / 100 is 749, and 749 * 91 / 100 is 681.
        CHECK.due("lot(1, 5)", shop.lot(1, 5), 681);
        CHECK.due("lot(1, 6)", shop.lot(1, 6), 680);
        shop.setPrice(0, 135, 1);
        shop.setCut(0, 1);
        // 135 * 75 / 100 is 101, and 101 * 99 / 100 is 99; rounded once it would be 100.
        CHECK.due("lot(1, 5), rounded twice", shop.lot(1, 5), 99);
        CHECK.due("lot(1, 6), of the rounded price", shop.lot(1, 6), 98);
        shop.setPrice(0, 1, 1);
        CHECK.due("lot(1, 5), a price below a cent", shop.lot(1, 5), 0);
        CHECK.due("lot(1, 6), a price below a cent", shop.lot(1, 6), 0);
        shop.setPrice(5, 9999, 1);
        shop.setCut(0, 0);
        shop.deliver(5, 20000, 100, 0);
        CHECK.due("lot(2, 5), the greatest price", shop.lot(2, 5), 9999);
        CHECK.due("lot(2, 6), the greatest sum", shop.lot(2, 6), 199980);
        shop.deliver(5, 20000, 0, 0);
        CHECK.due("lot(3, 5), 0 fresh", shop.lot(3, 5), 4999);
        CHECK.due("lot(3, 6), 0 fresh", shop.lot(3, 6), 99980);
    }

    private static void lotRefuses() {
        CHECK.promise(16, "`lot`: number of the lot");
        CHECK.lotsElseNoSuch(new int[] {1, 2, 3, 4, 6}, new int[] {5, 7}, Shops::busy,
                lot -> shop -> shop.lot(lot, 0));
        int[] all = {1, 2, 3, 4, 5, 6, 7, 8, 9, 10, 11, 12, 13, 14, 15, 16};
        CHECK.lotsElseNoSuch(all, new int[] {17, 18}, Shops::full, lot -> shop -> shop.lot(lot, 6));
        CHECK.promise(16, "NO_SUCH if there is no such lot");
        CHECK.noSuch("without any lot", FishCounter::new, shop -> shop.lot(1, 0));
        CHECK.noSuch("a lot that is gone", Shops::busy, shop -> shop.lot(5, 0));
        CHECK.noSuch("a lot that has not come yet", Shops::busy, shop -> shop.lot(7, 0));
        CHECK.noSuch("lot and what", Shops::busy, shop -> shop.lot(5, 7));
        CHECK.noSuch("lot and what", Shops::busy, shop -> shop.lot(0, -1));
        CHECK.promise(16, "BAD_VALUE if what is out of range");
        CHECK.badValue("lot(1, -1)", Shops::busy, shop -> shop.lot(1, -1));
        CHECK.badValue("lot(6, 7)", Shops::busy, shop -> shop.lot(6, 7));
    }

    private static void boxTellsEachNumber() {
        CHECK.promise(17, "`box`: 0 to 5");
        CHECK.rangeElseNoSuch(0, 5, Shops::busy, box -> shop -> shop.box(box, 3));
        CHECK.promise(17, "`what`: 0 for its ice, 1 for the number of its lots, 2 for the grams in it,"
                + " 3 for the lowest number of its lots (NONE without any)");
        CHECK.rangeElseBadValue(0, 3, Shops::busy, what -> shop -> shop.box(0, what));
        CHECK.rangeElseBadValue(0, 3, FishCounter::new, what -> shop -> shop.box(5, what));
        FishCounter shop = busyShop();
        int[][] due = {{800, 1, 500, 6}, {0, 2, 3277, 3}, {0, 0, 0, -6}};
        for (int box = 0; box < 3; box++) {
            for (int what = 0; what < 4; what++) {
                CHECK.due("box(" + box + ", " + what + ")", shop.box(box, what), due[box][what]);
            }
        }
    }

    private static void boxWithUpToThreeLots() {
        CHECK.promise(17, "Returns the number");
        for (int box = 0; box < 6; box++) {
            FishCounter shop = new FishCounter();
            for (int lots = 0; lots <= 3; lots++) {
                CHECK.due("the number of lots", shop.box(box, 1), lots);
                CHECK.due("the grams", shop.box(box, 2), 20000 * lots);
                CHECK.due("the lowest number", shop.box(box, 3), lots == 0 ? Check.NONE : 1);
                shop.deliver(0, 20000, 50, box);
            }
            shop.toTray(1, 0);
            CHECK.due("the lowest number, when lot 1 went away", shop.box(box, 3), 2);
            shop.toBox(1, box);
            CHECK.due("the lowest number, when lot 1 came back", shop.box(box, 3), 1);
            shop.throwAway(1);
            shop.throwAway(2);
            shop.throwAway(3);
            CHECK.due("the lowest number, when all are gone", shop.box(box, 3), Check.NONE);
            CHECK.due("the grams, when all are gone", shop.box(box, 2), 0);
        }
    }

    private static void boxRefuses() {
        CHECK.promise(17, "NO_SUCH if there is no such box");
        CHECK.noSuch("box(6, 0)", Shops::busy, shop -> shop.box(6, 0));
        CHECK.noSuch("box(-1, 0)", Shops::busy, shop -> shop.box(-1, 0));
        CHECK.noSuch("box(-6, 3)", Shops::busy, shop -> shop.box(-6, 3));
        CHECK.noSuch("box(6, 4)", Shops::busy, shop -> shop.box(6, 4));
        CHECK.noSuch("box(-1, -1)", Shops::busy, shop -> shop.box(-1, -1));
        CHECK.promise(17, "BAD_VALUE if what is out of range");
        CHECK.badValue("box(5, 4)", Shops::busy, shop -> shop.box(5, 4));
        CHECK.badValue("box(0, -1)", Shops::busy, shop -> shop.box(0, -1));
    }

    private static void trayTellsEachNumber() {
        CHECK.promise(18, "`tray`: 0 to 4");
        CHECK.rangeElseNoSuch(0, 4, Shops::busy, tray -> shop -> shop.tray(tray, 1));
        CHECK.promise(18, "`what`: 0 for its ice, 1 for the number of the lot on it (NONE without one)");
        CHECK.rangeElseBadValue(0, 1, Shops::busy, what -> shop -> shop.tray(0, what));
        CHECK.rangeElseBadValue(0, 1, FishCounter::new, what -> shop -> shop.tray(4, what));
        FishCounter shop = busyShop();
        for (int tray = 0; tray < 5; tray++) {
            CHECK.due("tray(" + tray + ", 0)", shop.tray(tray, 0), tray == 3 ? 50 : 0);
            CHECK.due("tray(" + tray + ", 1)", shop.tray(tray, 1), tray == 3 ? 1 : Check.NONE);
        }
    }

    private static void trayWithAndWithoutALot() {
        CHECK.promise(18, "Returns the number");
        for (int tray = 0; tray < 5; tray++) {
            FishCounter shop = Shops.full();
            CHECK.due("without a lot", shop.tray(tray, 1), Check.NONE);
            shop.toTray(16, tray);
            CHECK.due("with a lot", shop.tray(tray, 1), 16);
            shop.toTray(16, (tray + 1) % 5);
            CHECK.due("when it went to another tray", shop.tray(tray, 1), Check.NONE);
            shop.toTray(1, tray);
            CHECK.due("with another lot", shop.tray(tray, 1), 1);
            shop.throwAway(1);
            CHECK.due("when it was thrown away", shop.tray(tray, 1), Check.NONE);
            shop.iceTray(tray, 5000);
            CHECK.due("the most ice", shop.tray(tray, 0), 5000);
        }
    }

    private static void trayRefuses() {
        CHECK.promise(18, "NO_SUCH if there is no such tray");
        CHECK.noSuch("tray(5, 0)", Shops::busy, shop -> shop.tray(5, 0));
        CHECK.noSuch("tray(-1, 0)", Shops::busy, shop -> shop.tray(-1, 0));
        CHECK.noSuch("tray(-6, 1)", Shops::busy, shop -> shop.tray(-6, 1));
        CHECK.noSuch("tray(5, 2)", Shops::busy, shop -> shop.tray(5, 2));
        CHECK.noSuch("tray(-1, -1)", Shops::busy, shop -> shop.tray(-1, -1));
        CHECK.promise(18, "BAD_VALUE if what is out of range");
        CHECK.badValue("tray(4, 2)", Shops::busy, shop -> shop.tray(4, 2));
        CHECK.badValue("tray(0, -1)", Shops::busy, shop -> shop.tray(0, -1));
    }

    private static void kindTellsEachNumber() {
        CHECK.promise(19, "`kind`: 0 to 5");
        CHECK.rangeElseNoSuch(0, 5, Shops::busy, kind -> shop -> shop.kind(kind, 3));
        CHECK.promise(19, "`what`: 0 for its price, 1 for its cost, 2 for the grams that there are,"
                + " 3 for the number of the freshest lot, of several the lowest (NONE without any)");
        CHECK.rangeElseBadValue(0, 3, Shops::busy, what -> shop -> shop.kind(1, what));
        CHECK.rangeElseBadValue(0, 3, FishCounter::new, what -> shop -> shop.kind(0, what));
        FishCounter shop = busyShop();
        int[][] due = {{1000, 400, 0, -6}, {1200, 500, 0, -6}, {1400, 600, 4500, 6}, {1600, 700, 777, 3}};
        for (int kind = 0; kind < 4; kind++) {
            for (int what = 0; what < 4; what++) {
                CHECK.due("kind(" + kind + ", " + what + ")", shop.kind(kind, what), due[kind][what]);
            }
        }
    }

    private static void kindTellsTheFreshestLot() {
        CHECK.promise(19, "Returns the number");
        FishCounter shop = new FishCounter();
        CHECK.due("without any lot", shop.kind(5, 3), Check.NONE);
        shop.deliver(4, 9, 100, 5);
        CHECK.due("without any lot of the kind", shop.kind(5, 3), Check.NONE);
        CHECK.due("their grams", shop.kind(5, 2), 0);
        shop.deliver(5, 1, 0, 0);
        CHECK.due("the only one has 0", shop.kind(5, 3), 2);
        shop.deliver(5, 1, 70, 0);
        shop.deliver(5, 1, 70, 0);
        shop.deliver(5, 1, 69, 1);
        CHECK.due("of several the lowest", shop.kind(5, 3), 3);
        shop.toTray(3, 0);
        CHECK.due("also on a tray", shop.kind(5, 3), 3);
        shop.throwAway(3);
        CHECK.due("the next of several", shop.kind(5, 3), 4);
        shop.throwAway(4);
        CHECK.due("the only one that is so fresh", shop.kind(5, 3), 5);
        CHECK.due("their grams, one below the limit", shop.kind(5, 2), 2);
        FishCounter full = new FishCounter();
        for (int i = 0; i < 16; i++) {
            full.deliver(0, 20000, 100, i / 3);
        }
        CHECK.due("of sixteen the lowest", full.kind(0, 3), 1);
        CHECK.due("the most grams", full.kind(0, 2), 320000);
        full.toTray(1, 0);
        full.pass();
        CHECK.due("of fifteen the lowest", full.kind(0, 3), 2);
    }

    private static void kindRefuses() {
        CHECK.promise(19, "NO_SUCH if there is no such kind");
        CHECK.noSuch("kind(6, 0)", Shops::busy, shop -> shop.kind(6, 0));
        CHECK.noSuch("kind(-1, 0)", Shops::busy, shop -> shop.kind(-1, 0));
        CHECK.noSuch("kind(6, 4)", Shops::busy, shop -> shop.kind(6, 4));
        CHECK.noSuch("kind(-1, -1)", Shops::busy, shop -> shop.kind(-1, -1));
        CHECK.promise(19, "BAD_VALUE if what is out of range");
        CHECK.badValue("kind(5, 4)", Shops::busy, shop -> shop.kind(5, 4));
        CHECK.badValue("kind(0, -1)", Shops::busy, shop -> shop.kind(0, -1));
    }

    private static void cutTellsTheCut() {
        CHECK.promise(20, "`hour`: 0 to 10");
        CHECK.rangeElseNoSuch(0, 10, Shops::busy, hour -> shop -> shop.cut(hour));
        CHECK.promise(20, "Returns the cut");
        FishCounter shop = new FishCounter();
        for (int hour = 0; hour <= 10; hour++) {
            CHECK.due("cut(" + hour + ") at first", shop.cut(hour), 0);
            shop.setCut(hour, 90 - hour);
        }
        for (int hour = 0; hour <= 10; hour++) {
            CHECK.due("cut(" + hour + ")", shop.cut(hour), 90 - hour);
        }
        CHECK.promise(20, "NO_SUCH if there is no such hour");
        CHECK.noSuch("cut(11)", Shops::busy, asked -> asked.cut(11));
        CHECK.noSuch("cut(-1)", Shops::busy, asked -> asked.cut(-1));
        CHECK.noSuch("cut(11) in the hour 10", Shops::inTheEvening, asked -> asked.cut(11));
    }

    private static void askingChangesNothing() {
        CHECK.promise(15, "Returns a number of the shop");
        CHECK.changesNothing("count(3)", Shops::busy, shop -> shop.count(3));
        CHECK.promise(16, "Returns something about a lot");
        CHECK.changesNothing("lot(2, 6)", Shops::busy, shop -> shop.lot(2, 6));
        CHECK.promise(17, "Returns something about a box");
        CHECK.changesNothing("box(0, 3)", Shops::busy, shop -> shop.box(0, 3));
        CHECK.promise(18, "Returns something about a tray");
        CHECK.changesNothing("tray(1, 1)", Shops::busy, shop -> shop.tray(1, 1));
        CHECK.promise(19, "Returns something about a kind");
        CHECK.changesNothing("kind(1, 3)", Shops::busy, shop -> shop.kind(1, 3));
        CHECK.promise(20, "Returns the cut of an hour");
        CHECK.changesNothing("cut(2)", Shops::busy, shop -> shop.cut(2));
    }
}
