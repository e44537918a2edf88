import java.util.List;
import java.util.function.Supplier;
import java.util.function.ToLongFunction;

/** The sections "What it is" and "Not promised": a day at the counter, and the 512 calls of an object. */
public final class UseTest {
    private static final Check CHECK = new Check("UseTest");
    private static final int CALLS = 512;
    private static final int CALLS_OF_BUSY = 86;

    public static void main(String[] args) {
        aDayAtTheCounter();
        CHECK.section("What it is", "An object is used for at most 512 calls after it has been made");
        settingsUpTo512();
        lotsUpTo512();
        iceUpTo512();
        movesUpTo512();
        ordersUpTo512();
        hoursAndDaysUpTo512();
        textsUpTo512();
        undoUpTo512();
        askingUpTo512();
        newObjectBeginsAnew();
        accountsAreLargeEnough();
        laterCallsEndAsWell();
        nothingElseIsChanged();
        CHECK.finish();
    }

    private static void aDayAtTheCounter() {
        CHECK.section("What it is", "A fishmonger's counter: lots of fish that get less fresh, hour by hour and"
                + " faster without ice, boxes with ice in a cold room, trays on the counter, prices by freshness and by"
                + " cuts for each hour, orders of customers, fish that is thrown away, the closing of a day, accounts"
                + " of weight and money, forecasts of freshness and worth, and deliveries that are read from texts");
        FishCounter shop = new FishCounter();
        CHECK.due("a lot", shop.deliver(2, 1500, 95, 0), 1);
        CHECK.due("another lot", shop.deliver(2, 1000, 95, 1), 2);
        CHECK.due("a box with ice", shop.iceBox(0, 1000), 1000);
        CHECK.due("an hour", shop.pass(), 1);
        CHECK.due("less fresh with ice", shop.lot(1, 2), 94);
        CHECK.due("less fresh without ice", shop.lot(2, 2), 89);
        CHECK.due("a price by freshness, on a tray", shop.toTray(1, 3), 1358);
        CHECK.due("a cut", shop.setCut(1, 10), 0);
        CHECK.due("a price by a cut", shop.lot(1, 5), 1222);
        CHECK.due("an order", shop.order(2, 200, 60, 1300), 200);
        CHECK.due("fish that is thrown away", shop.throwAway(2), 1000);
        Shops.typeText(shop, "1:500/80@2");
        CHECK.due("a delivery from a text", shop.deliverAll(), 1);
        CHECK.due("a forecast of freshness", shop.freshAfter(1, 3), 67);
        CHECK.due("the worth", shop.worth(), 1588 + 486);
        CHECK.due("the closing", shop.close(), 0);
        CHECK.due("back in the box with ice", shop.lot(1, 3), 0);
        long[] counts = {1, 0, 2, 1800, 3000, 200, 1000, 900 + 600 + 250, 244, 100, 30};
        for (int what = 0; what < counts.length; what++) {
            CHECK.due("count(" + what + ")", shop.count(what), counts[what]);
        }
    }

    private static void settingsUpTo512() {
        FishCounter prices = new FishCounter();
        FishCounter cuts = new FishCounter();
        FishCounter meltings = new FishCounter();
        for (int call = 1; call <= CALLS; call++) {
            CHECK.due("setPrice, call " + call, prices.setPrice(0, call, 9999), call == 1 ? 1000 : call - 1);
            CHECK.due("setCut, call " + call, cuts.setCut(10, call % 91), (call - 1) % 91);
            int previous = call == 1 ? 30 : (call - 1) % 101;
            CHECK.due("setMelting, call " + call, meltings.setMelting(call % 501, call % 101), previous);
        }
    }

    private static void lotsUpTo512() {
        FishCounter delivered = new FishCounter();
        for (int number = 1; number <= CALLS / 2; number++) {
            CHECK.due("deliver", delivered.deliver(number % 6, number, 50, number % 6), number);
            CHECK.due("throwAway", delivered.throwAway(number), number);
        }
        FishCounter divided = Shops.withLot(0, 20000, 50);
        for (int number = 2; number <= CALLS / 2; number++) {
            CHECK.due("divide", divided.divide(1, 70, number % 6), number);
            CHECK.due("throwAway", divided.throwAway(number), 70);
        }
        CHECK.due("what is left of the divided lot", divided.lot(1, 1), 20000 - 70 * (CALLS / 2 - 1));
    }

    private static void iceUpTo512() {
        FishCounter boxes = new FishCounter();
        FishCounter trays = new FishCounter();
        for (int call = 1; call <= CALLS; call++) {
            CHECK.due("iceBox, call " + call, boxes.iceBox(5, 10), Math.min(5000, 10 * call));
            CHECK.due("iceTray, call " + call, trays.iceTray(4, 10), Math.min(5000, 10 * call));
        }
    }

    private static void movesUpTo512() {
        FishCounter trays = Shops.withLot(5, 1, 100);
        FishCounter boxes = Shops.withLot(5, 1, 100);
        for (int call = 2; call <= CALLS; call++) {
            CHECK.due("toTray, call " + call, trays.toTray(1, call % 5), 2000);
            CHECK.due("toBox, call " + call, boxes.toBox(1, 1 + call % 5), 1);
        }
    }

    private static void ordersUpTo512() {
        FishCounter shop = Shops.withLot(0, 20000, 100);
        shop.toTray(1, 4);
        for (int call = 3; call < CALLS; call++) {
            CHECK.due("order, call " + call, shop.order(0, 39, 100, 1000), 39);
        }
        CHECK.due("what is left, call 512", shop.lot(1, 1), 20000 - 39 * 509);
    }

    private static void hoursAndDaysUpTo512() {
        FishCounter days = new FishCounter();
        for (int call = 1; call < CALLS; call++) {
            CHECK.due("close, call " + call, days.close(), 0);
        }
        CHECK.due("the day, call 512", days.count(0), CALLS - 1);
        FishCounter hours = new FishCounter();
        for (int call = 1; call <= CALLS; call++) {
            int hour = call % 11;
            CHECK.due("pass or close, call " + call, hour == 0 ? hours.close() : hours.pass(), hour);
        }
    }

    private static void textsUpTo512() {
        FishCounter typed = new FishCounter();
        for (int call = 1; call <= CALLS; call++) {
            int length = call % 82;
            if (length == 0) {
                CHECK.due("clearText, call " + call, typed.clearText(), 80);
            } else {
                CHECK.due("type, call " + call, typed.type('0'), length == 81 ? Check.LIMIT : length);
            }
        }
        FishCounter read = new FishCounter();
        for (int number = 1; number <= CALLS / 10; number++) {
            Shops.typeText(read, "5:9/9@3");
            CHECK.due("syntaxError", read.syntaxError(), Check.NONE);
            CHECK.due("deliverAll", read.deliverAll(), 1);
            CHECK.due("throwAway", read.throwAway(number), 9);
        }
    }

    private static void undoUpTo512() {
        FishCounter one = new FishCounter();
        for (int call = 2; call <= CALLS; call += 2) {
            CHECK.due("deliver, call " + (call - 1), one.deliver(0, 1, 1, 0), 1);
            CHECK.due("undo, call " + call, one.undo(), 0);
        }
        FishCounter many = new FishCounter();
        for (int call = 1; call <= CALLS - 7; call++) {
            many.iceTray(0, 1);
        }
        for (int left = 5; left >= 0; left--) {
            CHECK.due("undo, call " + (511 - left), many.undo(), left);
        }
        CHECK.due("the ice, call 512", many.tray(0, 0), CALLS - 13);
    }

    private static void askingUpTo512() {
        List<ToLongFunction<FishCounter>> calls = List.of(shop -> shop.count(3), shop -> shop.lot(2, 6),
                shop -> shop.box(2, 3), shop -> shop.tray(1, 1), shop -> shop.kind(1, 3), shop -> shop.cut(2),
                shop -> shop.freshAfter(1, 100), shop -> shop.hoursLeft(1), shop -> shop.bestHour(3),
                shop -> shop.ifClosed(8), FishCounter::worth, FishCounter::syntaxError, FishCounter::digest);
        for (int i = 0; i < calls.size(); i++) {
            long due = calls.get(i).applyAsLong(Shops.busy());
            FishCounter shop = Shops.busy();
            for (int call = CALLS_OF_BUSY + 1; call <= CALLS; call++) {
                CHECK.due("asking " + i + ", call " + call, calls.get(i).applyAsLong(shop), due);
            }
        }
    }

    private static void newObjectBeginsAnew() {
        List<String> due = Answers.asked(new FishCounter());
        FishCounter old = new FishCounter();
        for (int call = 1; call <= CALLS; call++) {
            old.iceBox(call % 6, call);
        }
        CHECK.same("a new object beside one that has had its calls", Answers.asked(new FishCounter()), due);
    }

    private static void accountsAreLargeEnough() {
        FishCounter shop = new FishCounter();
        shop.setPrice(3, 9999, 9999);
        int rounds = (CALLS - 10) / 3;
        for (int number = 1; number <= rounds; number++) {
            shop.deliver(3, 20000, 100, 0);
            shop.toTray(number, 0);
            CHECK.due("order", shop.order(3, 20000, 100, 9999), 20000);
        }
        long[] counts = {0, 0, 0, 0, 20000L * rounds, 20000L * rounds, 0, 199980L * rounds, 199980L * rounds};
        for (int what = 0; what < counts.length; what++) {
            CHECK.due("count(" + what + ")", shop.count(what), counts[what]);
        }
    }

    /** What they answer is free, but LANGUAGE.md wants an end of each call in any state. */
    private static void laterCallsEndAsWell() {
        CHECK.section("What it is", "what later calls answer is free");
        FishCounter shop = Shops.full();
        for (int call = 0; call < 20 * CALLS; call++) {
            shop.throwAway(call);
            shop.divide(call + 1, 1, call % 6);
            shop.deliver(call % 6, 1, 100, call % 6);
            shop.type('0');
            shop.close();
            shop.digest();
        }
        CHECK.holds("the program comes to its end", true);
    }

    private static void nothingElseIsChanged() {
        CHECK.section("Not promised", "Nothing is promised beyond the answers and state changes described above,"
                + " and nothing about an object after its 512th call");
        for (Supplier<FishCounter> made : List.<Supplier<FishCounter>>of(FishCounter::new, Shops::busy)) {
            FishCounter shop = made.get();
            Answers.asked(shop);
            CHECK.same("asked twice", Answers.asked(shop), Answers.asked(made.get()));
            CHECK.same("undo() after asking", Answers.undone(asked(made)), Answers.undone(made.get()));
            CHECK.same("the text after asking", Answers.typed(asked(made)), Answers.typed(made.get()));
        }
    }

    private static FishCounter asked(Supplier<FishCounter> made) {
        FishCounter shop = made.get();
        Answers.asked(shop);
        return shop;
    }
}
