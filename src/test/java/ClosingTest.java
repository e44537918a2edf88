/** Promise 14: close. */
public final class ClosingTest {
    private static final Check CHECK = new Check("ClosingTest");

    public static void main(String[] args) {
        closeThrowsAwayWhatIsBelowTheLimit();
        closeIsPossibleInEachHour();
        closeTakesTheBoxWithTheMostIce();
        closeTakesTheLowestOfSeveralBoxes();
        closePassesOverFullBoxes();
        closeGoesByAscendingTrays();
        closeFindsABoxForEachOfSixteenLots();
        closeTakesTheIceOffTheTrays();
        closeGoesOnToTheNextDay();
        closeReturnsTheGramsThrownAway();
        closeRefusesInTheLastDay();
        closeIsUndoable();
        CHECK.finish();
    }

    private static void closeThrowsAwayWhatIsBelowTheLimit() {
        CHECK.promise(14, "Closes the day, in whatever hour: all lots below the limit are thrown away");
        FishCounter shop = new FishCounter();
        int[] fresh = {29, 30, 31, 0, 100, 29, 30};
        for (int i = 0; i < 7; i++) {
            shop.deliver(0, 1 << i, fresh[i], i / 3);
        }
        shop.toTray(6, 0);
        shop.toTray(7, 4);
        CHECK.due("close()", shop.close(), 1 + 8 + 32);
        for (int i = 0; i < 7; i++) {
            CHECK.due("lot(" + (i + 1) + ", 1)", shop.lot(i + 1, 1), fresh[i] < 30 ? Check.NO_SUCH : 1 << i);
        }
        shop.setMelting(0, 100);
        CHECK.due("limit 100", shop.close(), 2 + 4 + 64);
        CHECK.due("lots", shop.count(2), 1);
        FishCounter stale = new FishCounter();
        stale.deliver(0, 10, 0, 0);
        stale.setMelting(0, 0);
        CHECK.due("limit 0", stale.close(), 0);
        FishCounter full = Shops.full();
        full.setMelting(0, 91);
        CHECK.due("sixteen lots below the limit", full.close(), 1360);
        CHECK.due("none is left", full.count(2), 0);
        CHECK.due("without any lot", full.close(), 0);
    }

    private static void closeIsPossibleInEachHour() {
        CHECK.promise(14, "Closes the day, in whatever hour: all lots below the limit are thrown away");
        for (int hour = 0; hour <= 10; hour++) {
            FishCounter shop = Shops.withLot(0, 10, 48);
            for (int passed = 0; passed < hour; passed++) {
                shop.pass();
            }
            CHECK.due("close() in the hour " + hour, shop.close(), hour <= 3 ? 0 : 10);
            CHECK.due("the day", shop.count(0), 1);
            CHECK.due("the hour", shop.count(1), 0);
        }
    }

    private static void closeTakesTheBoxWithTheMostIce() {
        CHECK.promise(14, "Then each lot on a tray, by ascending trays, goes into the box with the most ice"
                + " of those with fewer than 3 lots, of several the lowest");
        for (int tray = 0; tray < 5; tray++) {
            for (int box = 0; box < 6; box++) {
                FishCounter shop = Shops.withLot(0, 10, 50);
                shop.toTray(1, tray);
                for (int other = 0; other < 6; other++) {
                    shop.iceBox(other, other == box ? 4999 : 4998);
                }
                shop.iceTray(tray, 5000);
                CHECK.due("close()", shop.close(), 0);
                CHECK.due("from tray " + tray + " into box", shop.lot(1, 3), box);
                CHECK.due("its tray", shop.lot(1, 4), Check.NONE);
                CHECK.due("the lot on the tray", shop.tray(tray, 1), Check.NONE);
                CHECK.due("it is as fresh as before", shop.lot(1, 2), 50);
                CHECK.due("the ice of the box stays", shop.box(box, 0), 4999);
            }
        }
    }

    private static void closeTakesTheLowestOfSeveralBoxes() {
        CHECK.promise(14, "goes into the box with the most ice of those with fewer than 3 lots,"
                + " of several the lowest");
        FishCounter shop = Shops.withLot(0, 10, 50);
        shop.toTray(1, 2);
        shop.close();
        CHECK.due("all without ice", shop.lot(1, 3), 0);
        for (int box = 4; box >= 1; box--) {
            shop.iceBox(box, 5000);
            shop.iceBox(5, 5000);
            shop.toTray(1, 2);
            shop.close();
            CHECK.due("all from this one on with 5000", shop.lot(1, 3), box);
        }
    }

    private static void closePassesOverFullBoxes() {
        CHECK.promise(14, "goes into the box with the most ice of those with fewer than 3 lots,"
                + " of several the lowest");
        FishCounter shop = Shops.withFullBoxAndTray();
        shop.iceBox(0, 5000);
        shop.iceBox(5, 1);
        shop.close();
        CHECK.due("the box with the most ice has 3 lots", shop.lot(4, 3), 5);
        shop.toTray(4, 0);
        shop.toTray(1, 1);
        shop.close();
        CHECK.due("it has 2: the lot of tray 0 goes in", shop.lot(4, 3), 0);
        CHECK.due("it has 3 again: the lot of tray 1 does not", shop.lot(1, 3), 5);
        shop.toTray(1, 0);
        shop.deliver(0, 10, 29, 5);
        shop.deliver(0, 10, 29, 5);
        shop.deliver(0, 10, 29, 5);
        shop.throwAway(2);
        shop.deliver(0, 10, 29, 0);
        shop.close();
        CHECK.due("the room of a lot that was just thrown away", shop.lot(1, 3), 0);
    }

    private static void closeGoesByAscendingTrays() {
        CHECK.promise(14, "Then each lot on a tray, by ascending trays");
        FishCounter shop = new FishCounter();
        for (int i = 0; i < 5; i++) {
            shop.deliver(0, 10 + i, 50, 1);
            shop.toTray(i + 1, 4 - i);
        }
        shop.deliver(0, 10, 50, 3);
        shop.iceBox(3, 700);
        shop.iceBox(4, 300);
        shop.close();
        int[] boxes = {4, 4, 4, 3, 3};
        for (int lot = 1; lot <= 5; lot++) {
            CHECK.due("lot " + lot + " from tray " + (5 - lot), shop.lot(lot, 3), boxes[lot - 1]);
        }
    }

    private static void closeFindsABoxForEachOfSixteenLots() {
        CHECK.promise(14, "if there is none, it is thrown away");
        // Six boxes have room for 18 lots, so that there always is one.
        FishCounter shop = Shops.full();
        for (int tray = 0; tray < 5; tray++) {
            shop.toTray(16 - 3 * tray, tray);
        }
        CHECK.due("close(), none is thrown away", shop.close(), 0);
        CHECK.due("lots", shop.count(2), 16);
        int[] boxOfTray = {1, 2, 3, 4, 5};
        for (int tray = 0; tray < 5; tray++) {
            CHECK.due("the lot of tray " + tray, shop.lot(16 - 3 * tray, 3), boxOfTray[tray]);
        }
        for (int box = 0; box < 6; box++) {
            CHECK.due("box(" + box + ", 1)", shop.box(box, 1), box == 5 ? 1 : 3);
        }
        FishCounter crowded = Shops.full();
        crowded.toTray(16, 0);
        crowded.toTray(15, 4);
        crowded.iceBox(4, 10);
        CHECK.due("with room in the boxes 4 and 5 alone", crowded.close(), 0);
        CHECK.due("the lot of tray 0", crowded.lot(16, 3), 4);
        CHECK.due("the lot of tray 4", crowded.lot(15, 3), 5);
    }

    private static void closeTakesTheIceOffTheTrays() {
        CHECK.promise(14, "The ice of the trays becomes 0");
        FishCounter shop = Shops.withLot(0, 10, 50);
        shop.toTray(1, 3);
        for (int tray = 0; tray < 5; tray++) {
            shop.iceTray(tray, 5000 - tray);
        }
        shop.iceBox(0, 5000);
        shop.close();
        for (int tray = 0; tray < 5; tray++) {
            CHECK.due("tray(" + tray + ", 0)", shop.tray(tray, 0), 0);
        }
        CHECK.due("box(0, 0), the ice of the boxes stays", shop.box(0, 0), 5000);
    }

    private static void closeGoesOnToTheNextDay() {
        CHECK.promise(14, "Then the day becomes 1 more, and the hour 0");
        FishCounter shop = Shops.busy();
        for (int day = 2; day <= 6; day++) {
            shop.close();
            CHECK.due("the day", shop.count(0), day);
            CHECK.due("the hour", shop.count(1), 0);
            shop.pass();
        }
        CHECK.due("the melting stays", shop.count(9), 70);
        CHECK.due("the limit stays", shop.count(10), 40);
        CHECK.due("the cuts stay", shop.cut(2), 15);
        CHECK.due("the prices stay", shop.kind(1, 0), 1555);
        CHECK.due("the numbers go on", shop.deliver(0, 1, 1, 5), 7);
    }

    private static void closeReturnsTheGramsThrownAway() {
        CHECK.promise(14, "Returns the grams that are thrown away");
        FishCounter shop = new FishCounter();
        for (int i = 0; i < 16; i++) {
            shop.deliver(0, 20000, 29, i / 3);
        }
        shop.throwAway(16);
        CHECK.due("fifteen of the greatest lots", shop.close(), 300000);
        CHECK.due("thrown away so far", shop.count(6), 320000);
        shop.deliver(0, 1, 29, 0);
        CHECK.due("a gram", shop.close(), 1);
        CHECK.due("nothing", shop.close(), 0);
        CHECK.due("thrown away so far", shop.count(6), 320001);
    }

    /** The day 999 is more than 512 calls away, so this asks for more than is promised. */
    private static void closeRefusesInTheLastDay() {
        CHECK.promise(14, "LIMIT in the day 999");
        FishCounter shop = new FishCounter();
        for (int day = 1; day <= 999; day++) {
            CHECK.due("close()", shop.close(), 0);
        }
        CHECK.due("count(0)", shop.count(0), 999);
        shop.deliver(0, 10, 0, 0);
        CHECK.due("close() in the day 999", shop.close(), Check.LIMIT);
        CHECK.due("count(0)", shop.count(0), 999);
        CHECK.due("lots", shop.count(2), 1);
        shop.undo();
        shop.undo();
        CHECK.due("close() in the day 998", shop.close(), 0);
    }

    private static void closeIsUndoable() {
        CHECK.promise(14, "Undoable");
        CHECK.undone("close", Shops::stocked, shop -> shop.close());
        CHECK.undone("close of an empty shop", FishCounter::new, shop -> shop.close());
        CHECK.undone("close of a lot below the limit", () -> Shops.withLot(0, 10, 29), shop -> shop.close());
    }
}
