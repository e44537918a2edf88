import java.util.function.Supplier;
import java.util.function.ToLongFunction;

/** The section Terms, which holds for all the promises. */
public final class TermsTest {
    private static final Check CHECK = new Check("TermsTest");

    public static void main(String[] args) {
        divisionsRoundDown();
        firstValues();
        hoursAndDays();
        lotNumbers();
        placesOfLots();
        lotsThatAreSoldOut();
        hourPasses();
        prices();
        limitOfFreshness();
        accounts();
        accountsThroughADay();
        texts();
        savedStates();
        stateThatUndoBringsBack();
        errorCodesChangeNothing();
        errorCodesInTheirOrder();
        errorCodes();
        CHECK.finish();
    }

    private static void divisionsRoundDown() {
        CHECK.terms("All values are integers");
        FishCounter shop = Shops.withLot(0, 999, 51);
        CHECK.due("999 g at 750 a kilogram", shop.lot(1, 6), 749);
        CHECK.terms("All divisions round down (no negative number is ever divided)");
        shop.setPrice(0, 199, 999);
        CHECK.due("199 * 75 / 100", shop.lot(1, 5), 149);
        shop.setCut(0, 33);
        CHECK.due("149 * 67 / 100", shop.lot(1, 5), 99);
        CHECK.due("999 * 99 / 1000", shop.lot(1, 6), 98);
        shop.deliver(0, 1, 0, 0);
        CHECK.due("1 * 999 / 1000 was paid", shop.count(7), 399);
        CHECK.terms("Everything is numbered from 0, if nothing else is said");
        CHECK.due("kind(0, 0)", shop.kind(0, 0), 199);
        CHECK.due("box(0, 1)", shop.box(0, 1), 2);
        CHECK.due("tray(0, 0)", shop.tray(0, 0), 0);
        CHECK.due("cut(0)", shop.cut(0), 33);
        CHECK.due("lot(0, 0): lots are numbered from 1", shop.lot(0, 0), Check.NO_SUCH);
    }

    private static void firstValues() {
        FishCounter shop = new FishCounter();
        CHECK.terms("the current hour is 0 and the current day is 0 in a new shop");
        CHECK.due("count(1)", shop.count(1), 0);
        CHECK.due("count(0)", shop.count(0), 0);
        CHECK.terms("There are 6 kinds of fish, 0 to 5");
        CHECK.rangeElseNoSuch(0, 5, FishCounter::new, kind -> asked -> asked.kind(kind, 0));
        CHECK.terms("at first the price of the kind k is 1000 + 200 * k, and its cost is 400 + 100 * k");
        for (int kind = 0; kind < 6; kind++) {
            CHECK.due("kind(" + kind + ", 0)", shop.kind(kind, 0), 1000 + 200 * kind);
            CHECK.due("kind(" + kind + ", 1)", shop.kind(kind, 1), 400 + 100 * kind);
        }
        CHECK.terms("Each has a price and a cost for a kilogram, in cents, 1 to 9999");
        CHECK.rangeElseBadValue(1, 9999, FishCounter::new, price -> asked -> asked.setPrice(5, price, price));
        CHECK.terms("Each box and each tray has ice, 0 to 5000 grams, at first 0");
        for (int place = 0; place < 6; place++) {
            CHECK.due("box(" + place + ", 0)", shop.box(place, 0), 0);
            CHECK.due("iceBox(" + place + ", 5000)", shop.iceBox(place, 5000), 5000);
            CHECK.due("iceBox(" + place + ", 1)", shop.iceBox(place, 1), 5000);
            boolean isTray = place < 5;
            CHECK.due("tray(" + place + ", 0)", shop.tray(place, 0), isTray ? 0 : Check.NO_SUCH);
            CHECK.due("iceTray(" + place + ", 5000)", shop.iceTray(place, 5000), isTray ? 5000 : Check.NO_SUCH);
            CHECK.due("iceTray(" + place + ", 1)", shop.iceTray(place, 1), isTray ? 5000 : Check.NO_SUCH);
        }
        CHECK.terms("There is a melting, 0 to 500 grams, initially 100");
        CHECK.due("count(9)", shop.count(9), 100);
        CHECK.rangeElseBadValue(0, 500, FishCounter::new, melting -> asked -> asked.setMelting(melting, 30));
        CHECK.terms("For each hour there is a cut in percent, 0 to 90, at first 0");
        for (int i = 0; i <= 10; i++) {
            int hour = i;
            CHECK.due("cut(" + hour + ")", shop.cut(hour), 0);
            CHECK.rangeElseBadValue(0, 90, FishCounter::new, percent -> asked -> asked.setCut(hour, percent));
        }
    }

    private static void hoursAndDays() {
        CHECK.terms("A day has the hours 0 to 10");
        FishCounter shop = new FishCounter();
        for (int day = 0; day < 3; day++) {
            for (int hour = 1; hour <= 10; hour++) {
                CHECK.due("day " + day, shop.pass(), hour);
            }
            CHECK.due("behind the hour 10", shop.pass(), Check.NOT_POSSIBLE);
            CHECK.due("close()", shop.close(), 0);
            CHECK.due("the hour of the next day", shop.count(1), 0);
        }
        // The day 999 is more than 512 calls away, so this asks for more than is promised.
        CHECK.terms("The current day is at most 999");
        FishCounter old = new FishCounter();
        for (int call = 0; call < 1005; call++) {
            old.close();
        }
        CHECK.due("count(0), beyond 512 calls", old.count(0), 999);
        CHECK.terms("Then the current hour becomes 1 more");
        CHECK.due("pass() in the hour 0", shop.pass(), 1);
        CHECK.due("count(1)", shop.count(1), 1);
    }

    private static void lotNumbers() {
        CHECK.terms("There are at most 16 lots");
        CHECK.due("lots", Shops.full().count(2), 16);
        CHECK.limit("one more by deliver", Shops::full, shop -> shop.deliver(0, 1, 1, 5));
        CHECK.limit("one more by divide", Shops::full, shop -> shop.divide(1, 1, 5));
        FishCounter byText = Shops.full();
        Shops.typeText(byText, "0:1/1@5");
        CHECK.due("one more by text", byText.deliverAll(), 0);
        CHECK.due("lots", byText.count(2), 16);
        CHECK.terms("A lot has a number (from 1 in the order in which the lots came, not used again");
        FishCounter shop = new FishCounter();
        CHECK.due("by deliver", shop.deliver(0, 10, 50, 0), 1);
        CHECK.due("by divide", shop.divide(1, 5, 0), 2);
        Shops.typeText(shop, "0:1/1@1;0:1/1@1;0:1/1@1;0:1/1@1");
        CHECK.due("by text, one of them refused", shop.deliverAll(), 3);
        CHECK.due("after a text", shop.deliver(0, 10, 50, 0), 6);
        shop.throwAway(6);
        shop.toTray(1, 0);
        shop.order(0, 5, 0, 9999);
        shop.close();
        CHECK.due("all that were lots", shop.count(2), 1);
        CHECK.due("not used again", shop.deliver(0, 10, 50, 0), 7);
        CHECK.terms("undo() brings the next number back, too");
        shop.undo();
        CHECK.due("by deliver", shop.deliver(0, 10, 50, 0), 7);
        CHECK.due("by divide", shop.divide(7, 1, 5), 8);
        shop.undo();
        CHECK.due("by divide", shop.divide(7, 1, 5), 8);
        Shops.typeText(shop, "0:1/1@1;0:1/1@1");
        shop.deliverAll();
        shop.undo();
        CHECK.due("by text", shop.deliver(0, 10, 50, 3), 9);
    }

    private static void placesOfLots() {
        CHECK.terms("undo() brings the next number back, too), a kind, a weight in grams, 1 to 20000,"
                + " a freshness, 0 to 100, and a place: a box, 0 to 5, or a tray, 0 to 4");
        for (int place = 0; place < 6; place++) {
            FishCounter shop = new FishCounter();
            shop.deliver(place, place == 0 ? 1 : 20000, place == 0 ? 0 : 100, place);
            int[] due = {place, place == 0 ? 1 : 20000, place == 0 ? 0 : 100, place, Check.NONE};
            for (int what = 0; what < 5; what++) {
                CHECK.due("lot(1, " + what + ")", shop.lot(1, what), due[what]);
            }
            boolean isTray = place < 5;
            shop.toTray(1, place);
            CHECK.due("its box", shop.lot(1, 3), isTray ? Check.NONE : place);
            CHECK.due("its tray", shop.lot(1, 4), isTray ? place : Check.NONE);
        }
        CHECK.terms("A box can have at most 3 lots, a tray at most one");
        CHECK.notPossible("a fourth by deliver", Shops::withFullBox, shop -> shop.deliver(0, 1, 1, 0));
        CHECK.notPossible("a fourth by toBox", Shops::withFullBox, shop -> shop.toBox(4, 0));
        CHECK.notPossible("a fourth by divide", Shops::withFullBox, shop -> shop.divide(4, 1, 0));
        CHECK.notPossible("a second on a tray", Shops::withFullBoxAndTray, shop -> shop.toTray(1, 3));
        FishCounter byText = Shops.withFullBox();
        Shops.typeText(byText, "0:1/1@0");
        CHECK.due("a fourth by text", byText.deliverAll(), 0);
        byText.iceBox(0, 5000);
        byText.toTray(4, 0);
        byText.close();
        CHECK.due("a fourth by close", byText.box(0, 1), 3);
    }

    private static void lotsThatAreSoldOut() {
        CHECK.terms("A lot whose weight becomes 0 is gone");
        FishCounter shop = Shops.withLot(0, 10, 50);
        shop.toTray(1, 2);
        CHECK.due("all but a gram is sold", shop.order(0, 9, 0, 9999), 9);
        CHECK.due("its weight", shop.lot(1, 1), 1);
        CHECK.due("the last gram is sold", shop.order(0, 1, 0, 9999), 1);
        CHECK.due("it is gone", shop.lot(1, 0), Check.NO_SUCH);
        CHECK.due("its tray is empty", shop.tray(2, 1), Check.NONE);
        CHECK.due("lots", shop.count(2), 0);
        CHECK.due("its kind has none", shop.kind(0, 3), Check.NONE);
        shop.undo();
        CHECK.due("it is back", shop.lot(1, 1), 1);
        CHECK.due("it is on its tray", shop.tray(2, 1), 1);
    }

    private static void hourPasses() {
        CHECK.terms("When an hour passes, first each lot becomes less fresh: in a box with ice by 1,"
                + " in a box without ice by 6, on a tray with ice by 2, on a tray without ice by 9,"
                + " but its freshness is at least 0");
        int[] loss = {1, 6, 2, 9};
        for (int place = 0; place < 4; place++) {
            for (int fresh = 0; fresh <= 100; fresh++) {
                FishCounter shop = Shops.withLot(0, 10, fresh);
                if (place >= 2) {
                    shop.toTray(1, 0);
                }
                if (place == 0) {
                    shop.iceBox(0, 1);
                } else if (place == 2) {
                    shop.iceTray(0, 1);
                }
                shop.pass();
                CHECK.due(fresh + " fresh, place " + place, shop.lot(1, 2), Math.max(0, fresh - loss[place]));
            }
        }
        CHECK.terms("Then in each box the ice becomes less by the melting, and on each tray by twice the melting,"
                + " but it is at least 0");
        for (int melting : new int[] {0, 1, 99, 100, 499, 500}) {
            for (int ice : new int[] {1, 99, 100, 101, 199, 200, 201, 500, 501, 999, 1000, 1001, 5000}) {
                FishCounter shop = new FishCounter();
                shop.setMelting(melting, 30);
                shop.iceBox(5, ice);
                shop.iceTray(4, ice);
                shop.pass();
                CHECK.due(ice + " in a box, melting " + melting, shop.box(5, 0), Math.max(0, ice - melting));
                CHECK.due(ice + " on a tray, melting " + melting, shop.tray(4, 0), Math.max(0, ice - 2 * melting));
                CHECK.due("in a box without ice", shop.box(4, 0), 0);
                CHECK.due("on a tray without ice", shop.tray(3, 0), 0);
            }
        }
    }

    private static void prices() {
        CHECK.terms("The price of a lot for a kilogram in an hour is computed in two steps:"
                + " p = (the price of its kind) * (50 + its freshness / 2) / 100,"
                + " and then p * (100 - the cut of this hour) / 100");
        for (int fresh = 0; fresh <= 100; fresh++) {
            FishCounter shop = Shops.withLot(0, 20000, fresh);
            for (int price : new int[] {1, 2, 99, 1333, 9999}) {
                int cut = (fresh + price) % 91;
                shop.setPrice(0, price, 1);
                shop.setCut(0, cut);
                int due = price * (50 + fresh / 2) / 100 * (100 - cut) / 100;
                CHECK.due(fresh + " fresh at " + price + " with the cut " + cut, shop.lot(1, 5), due);
            }
        }
        CHECK.terms("What grams of it cost is grams * this price / 1000");
        for (int grams : new int[] {1, 2, 999, 1000, 1001, 19999, 20000}) {
            FishCounter shop = Shops.withLot(0, grams, 100);
            CHECK.due(grams + " g at 1000", shop.lot(1, 6), grams);
            shop.setPrice(0, 999, 1);
            CHECK.due(grams + " g at 999", shop.lot(1, 6), grams * 999 / 1000);
            shop.setPrice(0, 9999, 1);
            CHECK.due(grams + " g at 9999", shop.lot(1, 6), grams * 9999 / 1000);
        }
    }

    private static void limitOfFreshness() {
        CHECK.terms("There is a limit, 0 to 100, initially 30: a lot whose freshness is less than the limit"
                + " is not sold, and is thrown away when the day is closed");
        CHECK.due("initially", new FishCounter().count(10), 30);
        for (int limit = 0; limit <= 100; limit++) {
            for (int fresh = Math.max(0, limit - 1); fresh <= Math.min(100, limit + 1); fresh++) {
                FishCounter shop = Shops.withLot(0, 10, fresh);
                shop.setMelting(0, limit);
                shop.toTray(1, 0);
                String name = fresh + " fresh at the limit " + limit;
                boolean isSold = fresh >= limit;
                CHECK.due(name + ": order()", shop.order(0, 1, 0, 9999), isSold ? 1 : 0);
                CHECK.holds(name + ": worth()", shop.worth() > 0 == isSold);
                CHECK.due(name + ": close()", shop.close(), isSold ? 0 : 10);
                CHECK.due(name + ": lots", shop.count(2), isSold ? 1 : 0);
            }
        }
    }

    private static void accounts() {
        CHECK.terms("The shop counts the grams that came, that were sold and that were thrown away, and the money"
                + " that was paid for deliveries (grams * cost / 1000 for each lot) and that was taken from customers,"
                + " all so far");
        FishCounter shop = new FishCounter();
        shop.setPrice(0, 1000, 999);
        shop.deliver(0, 1, 100, 0);
        shop.deliver(0, 1, 100, 0);
        CHECK.due("paid for two grams, each by itself", shop.count(7), 0);
        shop.deliver(0, 2, 100, 0);
        CHECK.due("paid for two grams at once", shop.count(7), 1);
        shop.setPrice(0, 1000, 9999);
        CHECK.due("paid, when the cost changes", shop.count(7), 1);
        shop.divide(3, 1, 1);
        CHECK.due("paid, when a lot is divided", shop.count(7), 1);
        CHECK.due("came, when a lot is divided", shop.count(4), 4);
        shop.toTray(1, 0);
        shop.order(0, 1, 0, 9999);
        CHECK.due("sold", shop.count(5), 1);
        CHECK.due("taken", shop.count(8), 1);
        shop.throwAway(2);
        shop.setMelting(100, 100);
        shop.pass();
        CHECK.due("thrown away", shop.count(6), 1);
        shop.close();
        CHECK.due("thrown away, when the day is closed", shop.count(6), 3);
        CHECK.due("came, all so far", shop.count(4), 4);
    }

    private static void accountsThroughADay() {
        CHECK.terms("What came is always what was sold, what was thrown away, and what there is");
        FishCounter shop = new FishCounter();
        balances("of a new shop", shop);
        for (int round = 0; round < 12; round++) {
            shop.deliver(round % 6, 17 + 100 * round, 100 - round, round % 6);
            balances("after deliver", shop);
            shop.toTray(round + 1, round % 5);
            balances("after toTray", shop);
            shop.divide(round, 5, (round + 1) % 6);
            balances("after divide", shop);
            shop.order(round % 6, 10 + 50 * round, 0, 9999);
            balances("after order", shop);
            shop.throwAway(round / 2);
            balances("after throwAway", shop);
            shop.pass();
            balances("after pass", shop);
            if (round % 4 == 3) {
                shop.close();
                balances("after close", shop);
                shop.undo();
                balances("after undo", shop);
                shop.close();
            }
        }
    }

    private static void balances(String when, FishCounter shop) {
        CHECK.due("came, " + when, shop.count(4), shop.count(5) + shop.count(6) + shop.count(3));
    }

    private static void texts() {
        CHECK.terms("There is a text of at most 80 characters, which is empty initially");
        FishCounter shop = new FishCounter();
        CHECK.due("initially", shop.clearText(), 0);
        for (int length = 1; length <= 80; length++) {
            CHECK.due("type('0')", shop.type('0'), length);
        }
        CHECK.due("an 81st character", shop.type('0'), Check.LIMIT);
        CHECK.terms("A delivery is a text of the form item { \";\" item }, where an item is"
                + " kind \":\" grams \"/\" freshness \"@\" box: a digit from 0 to 5, a number from 1 to 20000,"
                + " a number from 0 to 100, and a digit from 0 to 5");
        String[] deliveries = {"0:1/0@0", "5:20000/100@5", "0:1/0@0;5:20000/100@5"};
        String[] others = {"6:1/0@0", "0:0/0@0", "0:20001/0@0", "0:1/101@0", "0:1/0@6", "", ";", "0:1/0@0;",
            ";0:1/0@0", "0:1/0@0;;0:1/0@0", "0:/0@0", "0:1/@0", ":1/0@0", "0:1/0@", "0/1:0@0", "00:1/0@0", "0:1/0@00",
            "0:-1/0@0", "0:+1/0@0", "0:1/0@0:", "0:1/0@0,0:1/0@0"};
        for (String text : deliveries) {
            CHECK.due(text, Shops.withText(text).syntaxError(), Check.NONE);
        }
        for (String text : others) {
            CHECK.holds(text + " is no delivery", Shops.withText(text).syntaxError() >= 0);
            CHECK.due(text, Shops.withText(text).deliverAll(), Check.BAD_TEXT);
        }
        CHECK.terms("The numbers have no leading zeros");
        CHECK.due("01", Shops.withText("0:01/0@0").syntaxError(), 2);
        CHECK.due("00", Shops.withText("0:1/00@0").syntaxError(), 5);
        CHECK.due("05", Shops.withText("0:1/05@0").syntaxError(), 5);
        CHECK.due("10 and 100", Shops.withText("0:10/100@0").syntaxError(), Check.NONE);
        CHECK.due("0 itself", Shops.withText("0:1/0@0").syntaxError(), Check.NONE);
    }

    private static void savedStates() {
        CHECK.terms("Methods marked \"Undoable\" save the state from before the call if they return no error code");
        FishCounter shop = new FishCounter();
        shop.setPrice(0, 1000, 400);
        shop.iceBox(0, 5001);
        shop.setCut(0, 0);
        shop.pass();
        shop.order(0, 1, 0, 9999);
        shop.undo();
        CHECK.due("undo() of pass, order before it", shop.undo(), 2);
        CHECK.due("the hour", shop.count(1), 0);
        CHECK.terms("At most 6 states are saved");
        CHECK.due("undo() after many calls", Shops.busy().undo(), 5);
        CHECK.due("undo() after six calls", saved(6).undo(), 5);
        CHECK.due("undo() after seven calls", saved(7).undo(), 5);
        CHECK.terms("when a seventh one is saved, the oldest one is discarded");
        for (int calls = 6; calls <= 14; calls++) {
            FishCounter made = saved(calls);
            for (int i = 0; i < 6; i++) {
                made.undo();
            }
            CHECK.due("ice after six undo() of " + calls, made.box(0, 0), calls - 6);
            CHECK.due("one more undo()", made.undo(), Check.NOT_POSSIBLE);
        }
    }

    private static FishCounter saved(int calls) {
        FishCounter shop = new FishCounter();
        for (int i = 0; i < calls; i++) {
            shop.iceBox(0, 1);
        }
        return shop;
    }

    private static void stateThatUndoBringsBack() {
        CHECK.terms("The state is everything except the text and the saved states");
        FishCounter shop = Shops.stocked();
        shop.type(';');
        shop.close();
        shop.undo();
        CHECK.due("the text", shop.clearText(), 8);
        CHECK.same("after undo() of close", Answers.asked(shop), Answers.asked(Shops.stocked()));
        CHECK.due("the saved states", shop.undo(), 4);
        FishCounter emptied = Shops.withText("0:1/1@0");
        emptied.deliverAll();
        emptied.undo();
        CHECK.due("the text that deliverAll() emptied", emptied.clearText(), 0);
    }

    private static void errorCodesChangeNothing() {
        CHECK.terms("A call that returns NO_SUCH, BAD_VALUE, NOT_POSSIBLE, LIMIT or BAD_TEXT changes nothing");
        CHECK.noSuch("deliver", Shops::busy, shop -> shop.deliver(6, 1, 1, 0));
        CHECK.badValue("deliver", Shops::busy, shop -> shop.deliver(0, 0, 1, 0));
        CHECK.notPossible("deliver", Shops::full, shop -> shop.deliver(0, 1, 1, 0));
        CHECK.limit("deliver", Shops::full, shop -> shop.deliver(0, 1, 1, 5));
        CHECK.limit("type", () -> Shops.withText("0".repeat(80)), shop -> shop.type('0'));
        CHECK.badText("deliverAll", () -> Shops.withText("0:5/9@6"), shop -> shop.deliverAll());
        CHECK.notPossible("undo", FishCounter::new, shop -> shop.undo());
        CHECK.notPossible("pass", Shops::inTheEvening, shop -> shop.pass());
    }

    private static void errorCodesInTheirOrder() {
        CHECK.terms("If several of them apply, the one that is named first in the @return line is returned");
        CHECK.noSuch("deliver: all four", Shops::full, shop -> shop.deliver(6, 0, 101, 0));
        CHECK.badValue("deliver: the last three", Shops::full, shop -> shop.deliver(0, 0, 101, 0));
        CHECK.notPossible("deliver: the last two", Shops::full, shop -> shop.deliver(0, 1, 1, 0));
        CHECK.noSuch("divide: all four", Shops::full, shop -> shop.divide(17, 0, 0));
        CHECK.badValue("divide: the last three", Shops::full, shop -> shop.divide(1, 20000, 0));
        CHECK.notPossible("divide: the last two", Shops::full, shop -> shop.divide(1, 10, 0));
        CHECK.noSuch("toTray: both", Shops::busy, shop -> shop.toTray(5, 1));
        CHECK.noSuch("toBox: both", Shops::withFullBox, shop -> shop.toBox(5, 0));
        CHECK.noSuch("order: both", Shops::busy, shop -> shop.order(6, 0, 101, 0));
        CHECK.badValue("type: both", () -> Shops.withText("0".repeat(80)), shop -> shop.type(32));
    }

    private static void errorCodes() {
        codeOf("`NO_SUCH = -1`: There is no such kind, lot, box, tray or hour", FishCounter.NO_SUCH,
                FishCounter::new, shop -> shop.cut(11));
        codeOf("`BAD_VALUE = -2`: Another argument is out of its range", FishCounter.BAD_VALUE,
                FishCounter::new, shop -> shop.setCut(10, 91));
        codeOf("`NOT_POSSIBLE = -3`: The call is not possible in the present state", FishCounter.NOT_POSSIBLE,
                FishCounter::new, shop -> shop.undo());
        codeOf("`LIMIT = -4`: A limit would be exceeded", FishCounter.LIMIT,
                Shops::full, shop -> shop.deliver(0, 1, 1, 5));
        codeOf("`BAD_TEXT = -5`: The text is not a delivery", FishCounter.BAD_TEXT,
                FishCounter::new, shop -> shop.deliverAll());
        codeOf("`NONE = -6`: There is no such result", FishCounter.NONE,
                FishCounter::new, shop -> shop.tray(0, 1));
        CHECK.terms("NONE is not an error code");
        CHECK.due("NONE, but NO_SUCH first", new FishCounter().hoursLeft(1), Check.NO_SUCH);
        CHECK.due("NONE as a number of a lot", Shops.withLot(0, 10, 29).hoursLeft(1), Check.NONE);
    }

    private static void codeOf(String sentence, int code, Supplier<FishCounter> made,
            ToLongFunction<FishCounter> call) {
        CHECK.terms(sentence);
        int due = Integer.parseInt(sentence.replaceFirst("`[A-Z_]+ = (-\\d)`.*", "$1"));
        CHECK.due("the constant", code, due);
        CHECK.due("a call", call.applyAsLong(made.get()), due);
    }
}
