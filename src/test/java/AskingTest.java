/** Promises 15 to 20: count, lot, box, tray, kind, cut. */
public final class AskingTest {
    private static final int MIN = Integer.MIN_VALUE;
    private static final int MAX = Integer.MAX_VALUE;
    private static final Check CHECK = new Check("AskingTest");

    public static void main(String[] args) {
        FishCounter shop = busyShop();
        long before = shop.digest();
        countTellsEachNumber(shop);
        lotTellsEachNumber(shop);
        pricesAreRoundedDownInTwoSteps();
        boxTellsEachNumber(shop);
        trayTellsEachNumber(shop);
        kindTellsEachNumber(shop);
        cutTellsTheCut(shop);
        CHECK.sameState("asking", shop, before);
        CHECK.finish();
    }

    /** Day 1, hour 2; lot 2 sold, lot 4 thrown away, lots 1, 3, 5, 6 left. */
    private static FishCounter busyShop() {
        FishCounter shop = new FishCounter();
        shop.close();
        shop.deliver(2, 1500, 95, 0);
        shop.deliver(2, 200, 90, 0);
        shop.deliver(3, 777, 85, 1);
        shop.deliver(0, 40, 50, 1);
        shop.deliver(2, 3000, 99, 1);
        shop.iceBox(0, 1000);
        shop.toTray(2, 3);
        shop.order(2, 200, 0, 9999);
        shop.throwAway(4);
        shop.toTray(1, 3);
        shop.iceTray(3, 450);
        shop.divide(5, 500, 0);
        shop.setCut(2, 15);
        shop.pass();
        shop.pass();
        return shop;
    }

    private static void countTellsEachNumber(FishCounter shop) {
        long came = 1500 + 200 + 777 + 40 + 3000;
        long paid = 900 + 120 + 543 + 16 + 1800;
        long taken = 200L * (1400 * 95 / 100) / 1000;
        long[] due = {1, 2, 4, came - 240, came, 200, 40, paid, taken, 100, 30};
        for (int what = 0; what <= 10; what++) {
            CHECK.due("count(" + what + ")", shop.count(what), due[what]);
        }
        for (int what : new int[] {-1, 11, MIN, MAX}) {
            CHECK.due("count(" + what + ")", shop.count(what), -2);
        }
    }

    private static void lotTellsEachNumber(FishCounter shop) {
        int[][] due = {
            {1, 2, 1500, 91, -6, 3, 1130, 1695},
            {3, 3, 777, 73, 1, -6, 1169, 908},
            {5, 2, 2500, 87, 1, -6, 1106, 2765},
            {6, 2, 500, 97, 0, -6, 1166, 583},
        };
        for (int[] row : due) {
            for (int what = 0; what < 7; what++) {
                CHECK.due("lot(" + row[0] + ", " + what + ")", shop.lot(row[0], what), row[what + 1]);
            }
            for (int what : new int[] {-1, 7, MIN, MAX}) {
                CHECK.due("lot(" + row[0] + ", " + what + ")", shop.lot(row[0], what), -2);
            }
        }
        for (int lot : new int[] {0, 2, 4, 7, -1, -6, MIN, MAX}) {
            CHECK.due("lot(" + lot + ", 0)", shop.lot(lot, 0), -1);
            CHECK.due("lot: NO_SUCH first", shop.lot(lot, 7), -1);
        }
    }

    private static void pricesAreRoundedDownInTwoSteps() {
        FishCounter shop = new FishCounter();
        shop.setPrice(0, 999, 1);
        shop.setCut(0, 9);
        shop.deliver(0, 999, 51, 0);
        // 999 * 75 / 100 is 749, and 749 * 91 / 100 is 681; in one step it would be 681.8.
        CHECK.due("lot(1, 5)", shop.lot(1, 5), 681);
        CHECK.due("lot(1, 6)", shop.lot(1, 6), 680);
        shop.setPrice(0, 133, 1);
        // 133 * 75 / 100 is 99, and 99 * 91 / 100 is 90; rounded once it would be 90.77.
        CHECK.due("lot(1, 5)", shop.lot(1, 5), 90);
        shop.setPrice(0, 135, 1);
        shop.setCut(0, 1);
        // 135 * 75 / 100 is 101, and 101 * 99 / 100 is 99; rounded once it would be 100.
        CHECK.due("lot(1, 5)", shop.lot(1, 5), 99);
        shop.setPrice(0, 1, 1);
        CHECK.due("lot(1, 5), at least 0", shop.lot(1, 5), 0);
        FishCounter large = new FishCounter();
        large.setPrice(5, 9999, 9999);
        large.deliver(5, 20000, 100, 0);
        CHECK.due("the greatest sum", large.lot(1, 6), 199980);
        CHECK.due("the greatest cost", large.count(7), 199980);
    }

    private static void boxTellsEachNumber(FishCounter shop) {
        int[][] due = {{800, 1, 500, 6}, {0, 2, 3277, 3}, {0, 0, 0, -6}};
        for (int box = 0; box < 3; box++) {
            for (int what = 0; what < 4; what++) {
                CHECK.due("box(" + box + ", " + what + ")", shop.box(box, what), due[box][what]);
            }
            for (int what : new int[] {-1, 4, MIN, MAX}) {
                CHECK.due("box(" + box + ", " + what + ")", shop.box(box, what), -2);
            }
        }
        CHECK.due("box(5, 1)", shop.box(5, 1), 0);
        for (int box : new int[] {-1, 6, -6, MIN, MAX}) {
            CHECK.due("box(" + box + ", 0)", shop.box(box, 0), -1);
            CHECK.due("box: NO_SUCH first", shop.box(box, 4), -1);
        }
    }

    private static void trayTellsEachNumber(FishCounter shop) {
        CHECK.due("tray(3, 0)", shop.tray(3, 0), 50);
        CHECK.due("tray(3, 1)", shop.tray(3, 1), 1);
        CHECK.due("tray(4, 0)", shop.tray(4, 0), 0);
        CHECK.due("tray(4, 1)", shop.tray(4, 1), -6);
        for (int what : new int[] {-1, 2, MIN, MAX}) {
            CHECK.due("tray(0, " + what + ")", shop.tray(0, what), -2);
        }
        for (int tray : new int[] {-1, 5, -6, MIN, MAX}) {
            CHECK.due("tray(" + tray + ", 0)", shop.tray(tray, 0), -1);
            CHECK.due("tray: NO_SUCH first", shop.tray(tray, 2), -1);
        }
    }

    private static void kindTellsEachNumber(FishCounter shop) {
        int[][] due = {{1000, 400, 0, -6}, {1200, 500, 0, -6}, {1400, 600, 4500, 6}, {1600, 700, 777, 3}};
        for (int kind = 0; kind < 4; kind++) {
            for (int what = 0; what < 4; what++) {
                CHECK.due("kind(" + kind + ", " + what + ")", shop.kind(kind, what), due[kind][what]);
            }
            for (int what : new int[] {-1, 4, MIN, MAX}) {
                CHECK.due("kind(" + kind + ", " + what + ")", shop.kind(kind, what), -2);
            }
        }
        for (int kind : new int[] {-1, 6, -6, MIN, MAX}) {
            CHECK.due("kind(" + kind + ", 0)", shop.kind(kind, 0), -1);
            CHECK.due("kind: NO_SUCH first", shop.kind(kind, 4), -1);
        }
        FishCounter equal = new FishCounter();
        equal.deliver(5, 1, 0, 0);
        CHECK.due("the freshest may have 0", equal.kind(5, 3), 1);
        equal.deliver(5, 1, 70, 0);
        equal.deliver(5, 1, 70, 0);
        equal.deliver(5, 1, 69, 1);
        CHECK.due("of several the lowest", equal.kind(5, 3), 2);
    }

    private static void cutTellsTheCut(FishCounter shop) {
        for (int hour = 0; hour <= 10; hour++) {
            CHECK.due("cut(" + hour + ")", shop.cut(hour), hour == 2 ? 15 : 0);
        }
        for (int hour : new int[] {-1, 11, MIN, MAX}) {
            CHECK.due("cut(" + hour + ")", shop.cut(hour), -1);
        }
    }
}
