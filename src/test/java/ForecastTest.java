import java.util.List;
import java.util.function.Supplier;

/** Promises 21 to 25: freshAfter, hoursLeft, bestHour, ifClosed, worth. */
public final class ForecastTest {
    private static final Check CHECK = new Check("ForecastTest");
    private static final List<Supplier<FishCounter>> SHOPS = List.of(FishCounter::new, Shops::stocked,
            Shops::busy, Shops::full, Shops::withFullBoxAndTray, Shops::withIcyPlaces, Shops::inTheEvening);

    public static void main(String[] args) {
        freshAfterFollowsTheIce();
        freshAfterComesTrue();
        freshAfterGoesOnBehindTheHourTen();
        freshAfterTakesItsRanges();
        freshAfterReturnsAtLeastZero();
        freshAfterRefuses();
        hoursLeftCountsToTheLimit();
        hoursLeftAgreesWithFreshAfter();
        hoursLeftReturnsUpTo100();
        hoursLeftRefuses();
        bestHourWeighsCutsAndFreshness();
        bestHourLooksOnlyAhead();
        bestHourTakesTheFirstOfSeveral();
        bestHourOfALotThatIsNotSold();
        bestHourRefuses();
        ifClosedTellsWhatCloseAnswers();
        ifClosedStopsAtTheHourTen();
        ifClosedReturnsTheGrams();
        ifClosedRefuses();
        worthLeavesOutWhatIsNotSold();
        forecastsChangeNothing();
        CHECK.finish();
    }

    private static void freshAfterFollowsTheIce() {
        CHECK.promise(21, "Tells how fresh a lot would be after some hours, if it stayed where it is"
                + " and no ice was added");
        FishCounter shop = new FishCounter();
        shop.deliver(0, 10, 100, 0);
        shop.deliver(0, 10, 100, 1);
        shop.toTray(2, 0);
        shop.iceBox(0, 201);
        shop.iceTray(0, 201);
        int[] inBox = {100, 99, 98, 97, 91, 85};
        int[] onTray = {100, 98, 96, 87, 78, 69};
        for (int hours = 0; hours < 6; hours++) {
            CHECK.due("in a box, after " + hours, shop.freshAfter(1, hours), inBox[hours]);
            CHECK.due("on a tray, after " + hours, shop.freshAfter(2, hours), onTray[hours]);
        }
        FishCounter exact = new FishCounter();
        exact.deliver(0, 10, 100, 0);
        exact.deliver(0, 10, 100, 1);
        exact.toTray(2, 0);
        exact.iceBox(0, 200);
        exact.iceTray(0, 200);
        CHECK.due("ice for 2 hours in a box, after 3", exact.freshAfter(1, 3), 92);
        CHECK.due("ice for 1 hour on a tray, after 2", exact.freshAfter(2, 2), 89);
        exact.setMelting(0, 30);
        CHECK.due("ice that does not melt, in a box", exact.freshAfter(1, 99), 1);
        CHECK.due("ice that does not melt, on a tray", exact.freshAfter(2, 49), 2);
    }

    private static void freshAfterComesTrue() {
        CHECK.promise(21, "Tells how fresh a lot would be after some hours, if it stayed where it is"
                + " and no ice was added");
        FishCounter shop = new FishCounter();
        for (int i = 0; i < 6; i++) {
            shop.deliver(0, 10, 100 - i, i % 3);
        }
        shop.toTray(3, 2);
        shop.toTray(4, 3);
        shop.iceBox(0, 350);
        shop.iceBox(1, 1);
        shop.iceTray(2, 700);
        int[][] told = new int[7][11];
        for (int lot = 1; lot <= 6; lot++) {
            for (int hours = 0; hours <= 10; hours++) {
                told[lot][hours] = shop.freshAfter(lot, hours);
            }
        }
        for (int hours = 0; hours <= 10; hours++) {
            for (int lot = 1; lot <= 6; lot++) {
                CHECK.due("lot(" + lot + ", 2) in the hour " + hours, shop.lot(lot, 2), told[lot][hours]);
                CHECK.due("what is left to the hour 10", shop.freshAfter(lot, 10 - hours), told[lot][10]);
            }
            shop.pass();
        }
    }

    private static void freshAfterGoesOnBehindTheHourTen() {
        CHECK.promise(21, "closing does not matter");
        FishCounter shop = Shops.inTheEvening();
        CHECK.due("in the hour 10, after 0", shop.freshAfter(1, 0), 75);
        CHECK.due("in the hour 10, after 1", shop.freshAfter(1, 1), 73);
        CHECK.due("in the hour 10, after 15: the ice stays on the tray", shop.freshAfter(1, 15), 45);
        CHECK.due("in the hour 10, after 16: the ice has melted", shop.freshAfter(1, 16), 36);
        FishCounter stale = Shops.withLot(0, 10, 29);
        CHECK.due("below the limit, after 1", stale.freshAfter(1, 1), 23);
    }

    private static void freshAfterTakesItsRanges() {
        CHECK.promise(21, "`lot`: number of the lot");
        CHECK.lotsElseNoSuch(new int[] {1, 2, 3, 4, 6}, new int[] {5, 7}, Shops::busy,
                lot -> shop -> shop.freshAfter(lot, 0));
        CHECK.promise(21, "`hours`: 0 to 100");
        CHECK.rangeElseBadValue(0, 100, Shops::busy, hours -> shop -> shop.freshAfter(1, hours));
    }

    private static void freshAfterReturnsAtLeastZero() {
        CHECK.promise(21, "Returns the freshness");
        FishCounter shop = Shops.withLot(0, 10, 100);
        int[][] due = {{0, 100}, {1, 94}, {16, 4}, {17, 0}, {18, 0}, {99, 0}, {100, 0}};
        for (int[] row : due) {
            CHECK.due("100 fresh, after " + row[0], shop.freshAfter(1, row[0]), row[1]);
        }
        shop.iceBox(0, 5000);
        CHECK.due("with ice for 50 hours, after 58", shop.freshAfter(1, 58), 2);
        CHECK.due("with ice for 50 hours, after 59", shop.freshAfter(1, 59), 0);
        shop.setMelting(0, 30);
        CHECK.due("with ice for ever, after 99", shop.freshAfter(1, 99), 1);
        CHECK.due("with ice for ever, after 100", shop.freshAfter(1, 100), 0);
        shop.deliver(0, 10, 0, 0);
        CHECK.due("0 fresh, after 0", shop.freshAfter(2, 0), 0);
        CHECK.due("0 fresh, after 1", shop.freshAfter(2, 1), 0);
    }

    private static void freshAfterRefuses() {
        CHECK.promise(21, "NO_SUCH if there is no such lot");
        CHECK.noSuch("without any lot", FishCounter::new, shop -> shop.freshAfter(1, 0));
        CHECK.noSuch("a lot that is gone", Shops::busy, shop -> shop.freshAfter(5, 0));
        CHECK.noSuch("lot and hours", Shops::busy, shop -> shop.freshAfter(5, 101));
        CHECK.noSuch("lot and hours", Shops::busy, shop -> shop.freshAfter(0, -1));
        CHECK.promise(21, "BAD_VALUE if hours is out of range");
        CHECK.badValue("hours -1", Shops::busy, shop -> shop.freshAfter(1, -1));
        CHECK.badValue("hours 101", Shops::busy, shop -> shop.freshAfter(2, 101));
    }

    private static void hoursLeftCountsToTheLimit() {
        CHECK.promise(22, "Tells for how many hours a lot would still be at or above the limit, in the same way");
        FishCounter shop = new FishCounter();
        int[][] freshAndLeft = {{30, 0}, {35, 0}, {36, 1}, {41, 1}, {42, 2}, {100, 11}};
        for (int i = 0; i < freshAndLeft.length; i++) {
            shop.deliver(0, 10, freshAndLeft[i][0], i / 3);
            CHECK.due("in a box, " + freshAndLeft[i][0] + " fresh", shop.hoursLeft(i + 1), freshAndLeft[i][1]);
        }
        FishCounter tray = new FishCounter();
        int[] left = {0, 0, 1, 1, 2};
        int[] fresh = {30, 38, 39, 47, 48};
        for (int i = 0; i < 5; i++) {
            tray.deliver(0, 10, fresh[i], i);
            tray.toTray(i + 1, i);
            CHECK.due("on a tray, " + fresh[i] + " fresh", tray.hoursLeft(i + 1), left[i]);
        }
        shop.iceBox(0, 100);
        CHECK.due("30 fresh, with ice for an hour", shop.hoursLeft(1), 0);
        CHECK.due("36 fresh, with ice for an hour", shop.hoursLeft(3), 1);
        shop.iceBox(0, 1);
        CHECK.due("30 fresh, with ice for two hours", shop.hoursLeft(1), 0);
        CHECK.due("36 fresh, with ice for two hours", shop.hoursLeft(3), 2);
        tray.iceTray(2, 201);
        CHECK.due("39 fresh on a tray, with ice for two hours", tray.hoursLeft(3), 2);
        FishCounter evening = Shops.inTheEvening();
        CHECK.due("in the hour 10, closing does not matter", evening.hoursLeft(1), 16);
    }

    private static void hoursLeftAgreesWithFreshAfter() {
        CHECK.promise(22, "Tells for how many hours a lot would still be at or above the limit, in the same way");
        for (int limit = 0; limit <= 100; limit++) {
            for (int lot = 1; lot <= 5; lot++) {
                FishCounter shop = Shops.stocked();
                shop.setMelting(20, limit);
                int left = Check.NONE;
                for (int hours = 0; hours <= 100; hours++) {
                    left = shop.freshAfter(lot, hours) >= limit ? hours : left;
                }
                CHECK.due("lot " + lot + " at the limit " + limit, shop.hoursLeft(lot), left);
            }
        }
    }

    private static void hoursLeftReturnsUpTo100() {
        CHECK.promise(22, "Returns the greatest number of hours, 0 to 100, after which it is not below the limit");
        FishCounter shop = Shops.withLot(0, 10, 100);
        shop.setMelting(0, 0);
        CHECK.due("limit 0", shop.hoursLeft(1), 100);
        shop.iceBox(0, 1);
        CHECK.due("limit 0, with ice", shop.hoursLeft(1), 100);
        shop.setMelting(0, 1);
        CHECK.due("limit 1, with ice", shop.hoursLeft(1), 99);
        shop.setMelting(0, 99);
        CHECK.due("limit 99, with ice", shop.hoursLeft(1), 1);
        shop.setMelting(0, 100);
        CHECK.due("limit 100, with ice", shop.hoursLeft(1), 0);
        shop.deliver(0, 10, 0, 1);
        shop.setMelting(0, 0);
        CHECK.due("limit 0, 0 fresh", shop.hoursLeft(2), 100);
    }

    private static void hoursLeftRefuses() {
        CHECK.promise(22, "`lot`: number of the lot");
        CHECK.lotsElseNoSuch(new int[] {1, 2, 3, 4, 6}, new int[] {5, 7}, Shops::busy,
                lot -> shop -> shop.hoursLeft(lot));
        CHECK.promise(22, "NO_SUCH if there is no such lot");
        CHECK.noSuch("without any lot", FishCounter::new, shop -> shop.hoursLeft(1));
        CHECK.noSuch("a lot that is gone", Shops::busy, shop -> shop.hoursLeft(5));
        CHECK.promise(22, "NONE if it is below the limit now");
        FishCounter shop = Shops.withLot(0, 10, 29);
        CHECK.due("29 fresh", shop.hoursLeft(1), Check.NONE);
        shop.setMelting(0, 29);
        CHECK.due("29 fresh, limit 29", shop.hoursLeft(1), 0);
        shop.setMelting(0, 100);
        shop.deliver(0, 10, 99, 0);
        CHECK.due("99 fresh, limit 100", shop.hoursLeft(2), Check.NONE);
        shop.setMelting(0, 1);
        shop.deliver(0, 10, 0, 0);
        CHECK.due("0 fresh, limit 1", shop.hoursLeft(3), Check.NONE);
    }

    private static void bestHourWeighsCutsAndFreshness() {
        CHECK.promise(23, "Finds the hour of this day, from the current one to 10, in which all of a lot would"
                + " cost the most, if it stayed where it is and no ice was added"
                + " (whether it would be sold then does not matter)");
        FishCounter shop = Shops.withLot(0, 20000, 100);
        shop.setMelting(0, 100);
        CHECK.due("without cuts", shop.bestHour(1), 0);
        shop.setCut(0, 10);
        CHECK.due("with a cut in the hour 0", shop.bestHour(1), 1);
        shop.setCut(1, 10);
        shop.setCut(2, 10);
        // With the cut a kilogram costs 900; in the hour 3 it is 82 fresh and costs 910.
        CHECK.due("with cuts up to the hour 2", shop.bestHour(1), 3);
        shop.setCut(3, 2);
        // In the hour 3 it is 910 * 98 / 100, which is 891.
        CHECK.due("with a small cut in the hour 3", shop.bestHour(1), 0);
        shop.iceBox(0, 1);
        // With ice that does not melt it is 96 fresh in the hour 4 and costs 980.
        CHECK.due("with ice that does not melt", shop.bestHour(1), 4);
        shop.setMelting(100, 100);
        // With ice for an hour it is 87 fresh in the hour 3 and costs 930 * 98 / 100, which is 911.
        CHECK.due("with ice for an hour", shop.bestHour(1), 3);
    }

    private static void bestHourLooksOnlyAhead() {
        CHECK.promise(23, "Finds the hour of this day, from the current one to 10");
        for (int best = 0; best <= 10; best++) {
            FishCounter shop = Shops.withLot(0, 20000, 100);
            for (int hour = 0; hour <= 10; hour++) {
                shop.setCut(hour, hour == best ? 0 : 90);
            }
            for (int hour = 0; hour <= 10; hour++) {
                int due = hour <= best ? best : hour;
                CHECK.due("best " + best + ", in the hour " + hour, shop.bestHour(1), due);
                shop.pass();
            }
        }
    }

    private static void bestHourTakesTheFirstOfSeveral() {
        CHECK.promise(23, "of several the first");
        FishCounter shop = Shops.withLot(0, 1, 100);
        shop.setPrice(0, 2000, 1);
        shop.setCut(0, 40);
        // A kilogram costs 1200 now and 1940 in the hour 1, but a gram costs 1 in both.
        CHECK.due("a gram for a cent", shop.bestHour(1), 0);
        shop.setCut(0, 60);
        CHECK.due("a gram for nothing now", shop.bestHour(1), 1);
        shop.setPrice(0, 999, 1);
        CHECK.due("a gram for nothing all day", shop.bestHour(1), 0);
        shop.pass();
        CHECK.due("a gram for nothing from the hour 1 on", shop.bestHour(1), 1);
        FishCounter kept = Shops.withLot(0, 20000, 0);
        CHECK.due("the same all day", kept.bestHour(1), 0);
        kept.setCut(0, 1);
        kept.setCut(4, 1);
        CHECK.due("the same but for the hours 0 and 4", kept.bestHour(1), 1);
    }

    private static void bestHourOfALotThatIsNotSold() {
        CHECK.promise(23, "(whether it would be sold then does not matter)");
        FishCounter shop = Shops.withLot(0, 20000, 29);
        shop.setCut(0, 50);
        CHECK.due("below the limit now", shop.bestHour(1), 1);
        FishCounter later = Shops.withLot(0, 20000, 40);
        for (int hour = 0; hour < 10; hour++) {
            later.setCut(hour, 90);
        }
        CHECK.due("below the limit in the hour 10", later.bestHour(1), 10);
    }

    private static void bestHourRefuses() {
        CHECK.promise(23, "`lot`: number of the lot");
        CHECK.lotsElseNoSuch(new int[] {1, 2, 3, 4, 6}, new int[] {5, 7}, Shops::busy,
                lot -> shop -> shop.bestHour(lot));
        CHECK.promise(23, "NO_SUCH if there is no such lot");
        CHECK.noSuch("without any lot", FishCounter::new, shop -> shop.bestHour(1));
        CHECK.noSuch("a lot that is gone", Shops::busy, shop -> shop.bestHour(5));
        CHECK.promise(23, "Returns the hour");
        CHECK.due("in the hour 10", Shops.inTheEvening().bestHour(1), 10);
    }

    private static void ifClosedTellsWhatCloseAnswers() {
        CHECK.promise(24, "Tells the grams that would be thrown away if the day was closed after some hours");
        for (Supplier<FishCounter> made : SHOPS) {
            for (int hours = 0; hours <= 10; hours++) {
                FishCounter shop = made.get();
                for (int i = 0; i < hours; i++) {
                    shop.pass();
                }
                CHECK.due("ifClosed(" + hours + ")", made.get().ifClosed(hours), shop.close());
            }
        }
    }

    private static void ifClosedStopsAtTheHourTen() {
        CHECK.promise(24, "`hours`: 0 to 10: so many hours pass before, at most up to the hour 10");
        CHECK.rangeElseBadValue(0, 10, Shops::busy, hours -> shop -> shop.ifClosed(hours));
        FishCounter shop = new FishCounter();
        for (int hour = 0; hour < 9; hour++) {
            shop.pass();
        }
        shop.deliver(0, 5, 36, 0);
        shop.deliver(0, 70, 35, 0);
        CHECK.due("in the hour 9, at once", shop.ifClosed(0), 0);
        CHECK.due("in the hour 9, after 1", shop.ifClosed(1), 70);
        CHECK.due("in the hour 9, after 2: as after 1", shop.ifClosed(2), 70);
        CHECK.due("in the hour 9, after 10: as after 1", shop.ifClosed(10), 70);
        shop.pass();
        CHECK.due("in the hour 10, at once", shop.ifClosed(0), 70);
        CHECK.due("in the hour 10, after 1: at once", shop.ifClosed(1), 70);
        CHECK.due("in the hour 10, after 10: at once", shop.ifClosed(10), 70);
    }

    private static void ifClosedReturnsTheGrams() {
        CHECK.promise(24, "Returns the grams");
        FishCounter shop = new FishCounter();
        CHECK.due("without any lot", shop.ifClosed(0), 0);
        shop.deliver(0, 1, 29, 0);
        shop.deliver(0, 20, 36, 1);
        shop.deliver(0, 300, 41, 2);
        shop.deliver(0, 4000, 39, 3);
        shop.toTray(4, 0);
        int[] due = {1, 1, 4321, 4321};
        for (int hours = 0; hours < 4; hours++) {
            CHECK.due("after " + hours, shop.ifClosed(hours), due[hours]);
        }
        shop.iceTray(0, 1);
        CHECK.due("after 2, the tray with ice", shop.ifClosed(2), 4321);
        shop.iceTray(0, 200);
        CHECK.due("after 2, the tray with more ice", shop.ifClosed(2), 321);
        FishCounter full = new FishCounter();
        for (int i = 0; i < 16; i++) {
            full.deliver(0, 20000, 89, i / 3);
        }
        CHECK.due("sixteen lots, after 9", full.ifClosed(9), 0);
        CHECK.due("sixteen lots, after 10", full.ifClosed(10), 320000);
    }

    private static void ifClosedRefuses() {
        CHECK.promise(24, "BAD_VALUE if hours is out of range");
        CHECK.badValue("hours -1", Shops::busy, shop -> shop.ifClosed(-1));
        CHECK.badValue("hours 11", Shops::busy, shop -> shop.ifClosed(11));
        CHECK.badValue("hours 11 in the hour 10", Shops::inTheEvening, shop -> shop.ifClosed(11));
    }

    private static void worthLeavesOutWhatIsNotSold() {
        CHECK.promise(25, "Returns the sum of what all lots cost in the current hour, of those that are sold:"
                + " in boxes and on trays");
        CHECK.due("without any lot", new FishCounter().worth(), 0);
        FishCounter shop = new FishCounter();
        shop.deliver(0, 999, 100, 0);
        shop.deliver(0, 999, 30, 0);
        shop.deliver(0, 20000, 29, 0);
        shop.deliver(1, 1500, 100, 1);
        shop.toTray(4, 0);
        CHECK.due("at the limit and above it", shop.worth(), 999 + 649 + 1800);
        shop.setCut(0, 50);
        CHECK.due("with a cut, each lot by itself", shop.worth(), 499 + 324 + 900);
        shop.setMelting(0, 0);
        CHECK.due("without a limit", shop.worth(), 499 + 324 + 900 + 6400);
        shop.setMelting(0, 100);
        CHECK.due("the freshest alone", shop.worth(), 499 + 900);
        shop.pass();
        CHECK.due("none is fresh enough", shop.worth(), 0);
        FishCounter large = new FishCounter();
        large.setPrice(0, 9999, 1);
        for (int i = 0; i < 16; i++) {
            large.deliver(0, 20000, 100, i / 3);
        }
        CHECK.due("sixteen of the dearest lots", large.worth(), 16L * 199980);
    }

    private static void forecastsChangeNothing() {
        CHECK.terms("forecasts; they change nothing");
        for (Supplier<FishCounter> made : SHOPS) {
            CHECK.changesNothing("freshAfter(1, 100)", made, shop -> shop.freshAfter(1, 100));
            CHECK.changesNothing("hoursLeft(1)", made, shop -> shop.hoursLeft(1));
            CHECK.changesNothing("bestHour(1)", made, shop -> shop.bestHour(1));
            CHECK.changesNothing("ifClosed(10)", made, shop -> shop.ifClosed(10));
            CHECK.changesNothing("worth()", made, shop -> shop.worth());
        }
    }
}
