/** Promises 21 to 25: freshAfter, hoursLeft, bestHour, ifClosed, worth. */
public final class ForecastTest {
    private static final int MIN = Integer.MIN_VALUE;
    private static final int MAX = Integer.MAX_VALUE;
    private static final Check CHECK = new Check("ForecastTest");

    public static void main(String[] args) {
        freshAfterFollowsTheIce();
        freshAfterRefuses();
        forecastsComeTrue();
        hoursLeftCountsToTheLimit();
        hoursLeftAtItsEdges();
        bestHourWeighsCutsAndFreshness();
        bestHourLooksOnlyAhead();
        ifClosedTellsWhatCloseAnswers();
        ifClosedStopsAtTheHourTen();
        worthLeavesOutWhatIsNotSold();
        CHECK.finish();
    }

    private static void freshAfterFollowsTheIce() {
        FishCounter shop = new FishCounter();
        shop.deliver(0, 10, 100, 0);
        shop.deliver(0, 10, 100, 1);
        shop.toTray(2, 0);
        shop.iceBox(0, 250);
        shop.iceTray(0, 250);
        long before = shop.digest();
        int[] inBox = {100, 99, 98, 97, 91, 85};
        int[] onTray = {100, 98, 96, 87, 78, 69};
        for (int hours = 0; hours < 6; hours++) {
            CHECK.due("freshAfter(1, " + hours + ")", shop.freshAfter(1, hours), inBox[hours]);
            CHECK.due("freshAfter(2, " + hours + ")", shop.freshAfter(2, hours), onTray[hours]);
        }
        CHECK.due("freshAfter(1, 19)", shop.freshAfter(1, 19), 1);
        CHECK.due("freshAfter(1, 20), at least 0", shop.freshAfter(1, 20), 0);
        CHECK.due("freshAfter(1, 100)", shop.freshAfter(1, 100), 0);
        CHECK.sameState("freshAfter", shop, before);
        shop.setMelting(0, 30);
        CHECK.due("freshAfter(1, 99), ice that does not melt", shop.freshAfter(1, 99), 1);
        CHECK.due("freshAfter(1, 100)", shop.freshAfter(1, 100), 0);
        CHECK.due("freshAfter(2, 49)", shop.freshAfter(2, 49), 2);
    }

    private static void freshAfterRefuses() {
        FishCounter shop = new FishCounter();
        shop.deliver(0, 10, 100, 0);
        for (int lot : new int[] {0, 2, -1, MIN, MAX}) {
            CHECK.due("freshAfter: lot " + lot, shop.freshAfter(lot, 0), -1);
            CHECK.due("freshAfter: NO_SUCH first", shop.freshAfter(lot, 101), -1);
            CHECK.due("hoursLeft: lot " + lot, shop.hoursLeft(lot), -1);
            CHECK.due("bestHour: lot " + lot, shop.bestHour(lot), -1);
        }
        for (int hours : new int[] {-1, 101, MIN, MAX}) {
            CHECK.due("freshAfter: hours " + hours, shop.freshAfter(1, hours), -2);
        }
    }

    private static void forecastsComeTrue() {
        FishCounter shop = new FishCounter();
        shop.deliver(0, 10, 100, 0);
        shop.deliver(0, 10, 100, 1);
        shop.deliver(0, 10, 100, 2);
        shop.deliver(0, 10, 100, 3);
        shop.toTray(3, 2);
        shop.toTray(4, 3);
        shop.iceBox(0, 350);
        shop.iceTray(2, 700);
        int[][] told = new int[4][11];
        for (int lot = 1; lot <= 4; lot++) {
            for (int hours = 0; hours <= 10; hours++) {
                told[lot - 1][hours] = shop.freshAfter(lot, hours);
            }
        }
        for (int hours = 0; hours <= 10; hours++) {
            for (int lot = 1; lot <= 4; lot++) {
                CHECK.due("lot(" + lot + ", 2) in hour " + hours, shop.lot(lot, 2), told[lot - 1][hours]);
            }
            shop.pass();
        }
    }

    private static void hoursLeftCountsToTheLimit() {
        FishCounter shop = new FishCounter();
        shop.deliver(0, 10, 42, 0);
        shop.deliver(0, 10, 41, 0);
        shop.deliver(0, 10, 48, 1);
        shop.toTray(3, 0);
        shop.iceBox(1, 101);
        shop.deliver(0, 10, 38, 1);
        long before = shop.digest();
        CHECK.due("hoursLeft(1), to the limit itself", shop.hoursLeft(1), 2);
        CHECK.due("hoursLeft(2)", shop.hoursLeft(2), 1);
        CHECK.due("hoursLeft(3), on a tray", shop.hoursLeft(3), 2);
        CHECK.due("hoursLeft(4), with ice", shop.hoursLeft(4), 3);
        CHECK.sameState("hoursLeft", shop, before);
    }

    private static void hoursLeftAtItsEdges() {
        FishCounter shop = new FishCounter();
        shop.deliver(0, 10, 30, 0);
        shop.deliver(0, 10, 29, 0);
        CHECK.due("hoursLeft(1), at the limit", shop.hoursLeft(1), 0);
        CHECK.due("hoursLeft(2), below it", shop.hoursLeft(2), -6);
        shop.setMelting(0, 0);
        CHECK.due("hoursLeft(2), no limit", shop.hoursLeft(2), 100);
        shop.deliver(0, 10, 100, 0);
        shop.iceBox(0, 1);
        shop.setMelting(0, 1);
        CHECK.due("hoursLeft(3)", shop.hoursLeft(3), 99);
        shop.setMelting(0, 100);
        CHECK.due("hoursLeft(3)", shop.hoursLeft(3), 0);
    }

    private static void bestHourWeighsCutsAndFreshness() {
        FishCounter shop = new FishCounter();
        shop.setMelting(0, 100);
        shop.deliver(0, 20000, 100, 0);
        CHECK.due("bestHour(1), the freshest", shop.bestHour(1), 0);
        shop.setCut(0, 10);
        CHECK.due("bestHour(1), after the cut", shop.bestHour(1), 1);
        shop.setCut(1, 10);
        shop.setCut(2, 10);
        // Cut: 20000 * 900; in hour 3 it would be 82 fresh: 20000 * 910.
        CHECK.due("bestHour(1)", shop.bestHour(1), 3);
        shop.setCut(3, 2);
        // In hour 3: 910 * 98 / 100 is 891, less than 900 in hour 0.
        CHECK.due("bestHour(1)", shop.bestHour(1), 0);
        shop.iceBox(0, 1);
        // With ice that does not melt: 98 in hour 4, so 990.
        CHECK.due("bestHour(1), with ice", shop.bestHour(1), 4);
        shop.deliver(0, 1, 0, 1);
        CHECK.due("bestHour(2), always 0", shop.bestHour(2), 0);
        FishCounter evening = new FishCounter();
        evening.deliver(0, 20000, 100, 0);
        for (int hour = 0; hour < 10; hour++) {
            evening.setCut(hour, 90);
        }
        CHECK.due("bestHour(1), the hour 10", evening.bestHour(1), 10);
    }

    private static void bestHourLooksOnlyAhead() {
        FishCounter shop = new FishCounter();
        shop.deliver(0, 20000, 100, 0);
        for (int hour = 0; hour < 10; hour++) {
            CHECK.due("bestHour(1)", shop.bestHour(1), hour);
            shop.pass();
        }
        CHECK.due("bestHour(1) in the hour 10", shop.bestHour(1), 10);
        FishCounter light = new FishCounter();
        light.deliver(0, 1, 100, 0);
        light.setPrice(0, 2000, 1);
        light.setCut(0, 40);
        // A kilogram would cost 1200 now and 1940 in hour 1, but a gram costs 1 in both.
        CHECK.due("bestHour(1), of several the first", light.bestHour(1), 0);
        light.setCut(0, 60);
        CHECK.due("bestHour(1), a gram costs 0 now", light.bestHour(1), 1);
    }

    private static void ifClosedTellsWhatCloseAnswers() {
        FishCounter shop = new FishCounter();
        shop.deliver(0, 1, 29, 0);
        shop.deliver(0, 20, 36, 1);
        shop.deliver(0, 300, 41, 2);
        shop.deliver(0, 4000, 39, 3);
        shop.toTray(4, 0);
        long before = shop.digest();
        CHECK.due("ifClosed(0)", shop.ifClosed(0), 1);
        CHECK.due("ifClosed(1)", shop.ifClosed(1), 1);
        CHECK.due("ifClosed(2)", shop.ifClosed(2), 4321);
        CHECK.due("ifClosed(10)", shop.ifClosed(10), 4321);
        for (int hours : new int[] {-1, 11, MIN, MAX}) {
            CHECK.due("ifClosed(" + hours + ")", shop.ifClosed(hours), -2);
        }
        CHECK.sameState("ifClosed", shop, before);
        shop.pass();
        int told = shop.ifClosed(1);
        shop.pass();
        CHECK.due("close()", shop.close(), told);
    }

    private static void ifClosedStopsAtTheHourTen() {
        FishCounter shop = new FishCounter();
        for (int hour = 0; hour < 9; hour++) {
            shop.pass();
        }
        shop.deliver(0, 5, 36, 0);
        shop.deliver(0, 70, 35, 0);
        CHECK.due("ifClosed(0)", shop.ifClosed(0), 0);
        CHECK.due("ifClosed(1)", shop.ifClosed(1), 70);
        CHECK.due("ifClosed(10), one hour is left", shop.ifClosed(10), 70);
        shop.pass();
        CHECK.due("ifClosed(10), none is left", shop.ifClosed(10), 70);
        CHECK.due("close()", shop.close(), 70);
    }

    private static void worthLeavesOutWhatIsNotSold() {
        FishCounter shop = new FishCounter();
        shop.deliver(0, 999, 100, 0);
        shop.deliver(0, 999, 30, 0);
        shop.deliver(0, 20000, 29, 0);
        shop.deliver(1, 1500, 100, 1);
        shop.toTray(4, 0);
        long before = shop.digest();
        CHECK.due("worth()", shop.worth(), 999 + 649 + 1800);
        CHECK.sameState("worth", shop, before);
        shop.setCut(0, 50);
        CHECK.due("worth(), each lot by itself", shop.worth(), 499 + 324 + 900);
        shop.setMelting(0, 0);
        CHECK.due("worth(), all are sold", shop.worth(), 499 + 324 + 900 + 6400);
        FishCounter large = new FishCounter();
        large.setPrice(0, 9999, 1);
        for (int i = 0; i < 16; i++) {
            large.deliver(0, 20000, 100, i / 3);
        }
        CHECK.due("worth(), 16 lots", large.worth(), 16L * 199980);
    }
}
