import java.util.ArrayList;
import java.util.List;
import java.util.function.Supplier;

/** Promises 30 and 31: undo, digest. */
public final class UndoTest {
    private static final Check CHECK = new Check("UndoTest");
    private static final List<Supplier<FishCounter>> SHOPS = List.of(FishCounter::new, Shops::stocked,
            Shops::busy, Shops::full, Shops::withFullBoxAndTray, Shops::withIcyPlaces, Shops::inTheEvening);

    public static void main(String[] args) {
        undoRestoresTheLastState();
        undoGoesOnAfterNewCalls();
        undoSkipsRefusedCalls();
        undoReturnsWhatIsLeft();
        undoOfMoreCallsThanItKeeps();
        undoIsRefusedWithoutAState();
        undoLeavesTheTextAlone();
        digestOfANewShop();
        digestOfFish();
        digestOfTheSameAnswers();
        digestOverflows();
        digestChangesNothing();
        CHECK.finish();
    }

    private static void undoRestoresTheLastState() {
        CHECK.promise(30, "Restores the state that was saved last, and discards it from the saved states");
        for (int calls = 6; calls >= 0; calls--) {
            FishCounter shop = withLotsThrownAway(6);
            for (int i = calls; i < 6; i++) {
                shop.undo();
            }
            List<String> due = Answers.asked(withLotsThrownAway(calls));
            CHECK.same("undo() down to call " + calls, Answers.asked(shop), due);
        }
    }

    private static FishCounter withLotsThrownAway(int lots) {
        FishCounter shop = Shops.full();
        for (int i = 0; i < lots; i++) {
            shop.toTray(1, 0);
            shop.undo();
            shop.throwAway(16 - i);
        }
        return shop;
    }

    private static void undoGoesOnAfterNewCalls() {
        CHECK.promise(30, "Restores the state that was saved last, and discards it from the saved states");
        FishCounter shop = new FishCounter();
        for (int i = 0; i < 7; i++) {
            shop.iceBox(0, 1);
        }
        shop.undo();
        shop.undo();
        CHECK.due("ice after two of seven were undone", shop.box(0, 0), 5);
        shop.iceBox(0, 100);
        CHECK.due("undo()", shop.undo(), 4);
        CHECK.due("ice", shop.box(0, 0), 5);
        CHECK.due("undo(), the state is not brought back twice", shop.undo(), 3);
        CHECK.due("ice", shop.box(0, 0), 4);
        for (int i = 0; i < 10; i++) {
            shop.iceBox(0, 10);
            CHECK.due("undo() of one call after another", shop.undo(), 3);
            CHECK.due("ice", shop.box(0, 0), 4);
        }
    }

    private static void undoSkipsRefusedCalls() {
        CHECK.promise(30, "Restores the state that was saved last");
        FishCounter shop = Shops.withLot(0, 10, 50);
        shop.iceBox(0, 7);
        shop.setPrice(6, 1, 1);
        shop.setCut(11, 1);
        shop.setMelting(501, 1);
        shop.deliver(0, 0, 1, 0);
        shop.iceBox(0, 0);
        shop.iceTray(0, 0);
        shop.toTray(2, 0);
        shop.toBox(1, 0);
        shop.divide(1, 10, 0);
        shop.throwAway(2);
        shop.order(0, 0, 0, 1);
        shop.deliverAll();
        CHECK.due("undo() of iceBox", shop.undo(), 1);
        CHECK.due("ice", shop.box(0, 0), 0);
        CHECK.due("lots", shop.count(2), 1);
        CHECK.due("undo() of deliver", shop.undo(), 0);
        CHECK.due("lots", shop.count(2), 0);
    }

    private static void undoReturnsWhatIsLeft() {
        CHECK.promise(30, "Returns the number of saved states that are left");
        for (int calls = 1; calls <= 6; calls++) {
            FishCounter shop = new FishCounter();
            for (int i = 0; i < calls; i++) {
                shop.iceBox(0, 1);
            }
            for (int left = calls - 1; left >= 0; left--) {
                CHECK.due("undo() of " + calls + " calls", shop.undo(), left);
                CHECK.due("ice", shop.box(0, 0), left);
            }
        }
    }

    private static void undoOfMoreCallsThanItKeeps() {
        CHECK.promise(30, "Returns the number of saved states that are left");
        for (int calls = 7; calls <= 20; calls++) {
            FishCounter shop = new FishCounter();
            for (int i = 0; i < calls; i++) {
                shop.iceBox(0, 1);
            }
            for (int left = 5; left >= 0; left--) {
                CHECK.due("undo() of " + calls + " calls", shop.undo(), left);
                CHECK.due("ice", shop.box(0, 0), calls - 6 + left);
            }
            CHECK.due("undo() of the seventh before", shop.undo(), Check.NOT_POSSIBLE);
            CHECK.due("ice", shop.box(0, 0), calls - 6);
        }
    }

    private static void undoIsRefusedWithoutAState() {
        CHECK.promise(30, "NOT_POSSIBLE if no state is saved");
        CHECK.notPossible("of a new shop", FishCounter::new, shop -> shop.undo());
        CHECK.notPossible("of a new shop with a text", () -> Shops.withText("0:1/1@0"), shop -> shop.undo());
        CHECK.notPossible("when all are undone", () -> {
            FishCounter shop = Shops.busy();
            for (int i = 0; i < 6; i++) {
                shop.undo();
            }
            return shop;
        }, shop -> shop.undo());
        FishCounter shop = new FishCounter();
        for (int i = 0; i < 10; i++) {
            CHECK.due("again and again", shop.undo(), Check.NOT_POSSIBLE);
        }
        shop.iceBox(0, 1);
        CHECK.due("after a call", shop.undo(), 0);
    }

    private static void undoLeavesTheTextAlone() {
        CHECK.promise(30, "Restores the state that was saved last");
        FishCounter shop = Shops.withText("0:1/1@0");
        shop.iceBox(0, 1);
        Shops.typeText(shop, ";0:1/1@1");
        shop.undo();
        CHECK.due("the text keeps what was typed since", shop.clearText(), 15);
        shop.iceBox(0, 1);
        shop.undo();
        CHECK.due("the text stays cleared", shop.clearText(), 0);
    }

    private static long hashOf(long[] values) {
        long hash = 186;
        for (long value : values) {
            hash = 31 * hash + value;
        }
        return hash;
    }

    private static void digestOfANewShop() {
        CHECK.promise(31, "The hash starts at 186");
        long[] values = {
            0, 0, 0, 0, 0, 0, 0, 0, 0, 100, 30,
            0, 0, 0, -6, 0, 0, 0, -6, 0, 0, 0, -6, 0, 0, 0, -6, 0, 0, 0, -6, 0, 0, 0, -6,
            0, -6, 0, -6, 0, -6, 0, -6, 0, -6,
            1000, 400, 0, -6, 1200, 500, 0, -6, 1400, 600, 0, -6,
            1600, 700, 0, -6, 1800, 800, 0, -6, 2000, 900, 0, -6,
            0, 0, 0, 0, 0, 0, 0, 0, 0, 0, 0,
            0,
        };
        CHECK.due("digest()", new FishCounter().digest(), hashOf(values));
    }

    private static void digestOfFish() {
        CHECK.promise(31, "Computes a hash of the state");
        FishCounter shop = new FishCounter();
        shop.deliver(1, 2000, 100, 5);
        shop.deliver(1, 100, 29, 5);
        shop.deliver(0, 1000, 90, 0);
        shop.toTray(3, 4);
        shop.throwAway(2);
        shop.order(0, 500, 0, 9999);
        shop.iceTray(4, 350);
        shop.iceBox(2, 60);
        shop.setCut(0, 10);
        shop.setCut(10, 90);
        long[] values = {
            0, 0, 2, 2500, 3100, 500, 100, 1000 + 50 + 400, 475, 100, 30,
            1, 1, 2000, 100, 5, -6, 1080, 2160, 11, 1,
            3, 0, 500, 90, -6, 4, 855, 427, 8, 1,
            0, 0, 0, -6, 0, 0, 0, -6, 60, 0, 0, -6, 0, 0, 0, -6, 0, 0, 0, -6, 0, 1, 2000, 1,
            0, -6, 0, -6, 0, -6, 0, -6, 350, 3,
            1000, 400, 500, 3, 1200, 500, 2000, 1, 1400, 600, 0, -6,
            1600, 700, 0, -6, 1800, 800, 0, -6, 2000, 900, 0, -6,
            10, 0, 0, 0, 0, 0, 0, 0, 0, 0, 90,
            2160 + 427,
        };
        CHECK.due("digest()", shop.digest(), hashOf(values));
        CHECK.promise(31, "Returns the hash");
        CHECK.due("digest() once more", shop.digest(), hashOf(values));
    }

    /** The list of the document, asked from the shop itself. */
    private static long[] answersOf(FishCounter shop) {
        List<Long> list = new ArrayList<>();
        for (int what = 0; what <= 10; what++) {
            list.add(shop.count(what));
        }
        for (int lot = 1; lot <= 40; lot++) {
            if (shop.lot(lot, 0) != Check.NO_SUCH) {
                list.add((long) lot);
                addRow(list, shop, 0, lot, 7);
                list.add((long) shop.hoursLeft(lot));
                list.add((long) shop.bestHour(lot));
            }
        }
        int[] members = {0, 6, 5, 6};
        int[] numbers = {0, 4, 2, 4};
        for (int row = 1; row <= 3; row++) {
            for (int member = 0; member < members[row]; member++) {
                addRow(list, shop, row, member, numbers[row]);
            }
        }
        for (int hour = 0; hour <= 10; hour++) {
            list.add((long) shop.cut(hour));
        }
        list.add(shop.worth());
        return list.stream().mapToLong(value -> value).toArray();
    }

    private static void addRow(List<Long> list, FishCounter shop, int row, int member, int numbers) {
        for (int what = 0; what < numbers; what++) {
            int answer = row == 0 ? shop.lot(member, what) : row == 1 ? shop.box(member, what)
                    : row == 2 ? shop.tray(member, what) : shop.kind(member, what);
            list.add((long) answer);
        }
    }

    private static void digestOfTheSameAnswers() {
        CHECK.promise(31, "The list is: count(0) to count(10); for each lot, by ascending numbers, its number,"
                + " its numbers 0 to 6, hoursLeft() and bestHour(); for each box its numbers 0 to 3;"
                + " for each tray its numbers 0 and 1; for each kind its numbers 0 to 3; cut(0) to cut(10); worth()");
        for (Supplier<FishCounter> made : SHOPS) {
            FishCounter shop = made.get();
            CHECK.due("digest()", shop.digest(), hashOf(answersOf(shop)));
        }
        for (int changes = 1; changes <= 8; changes++) {
            FishCounter shop = Shops.full();
            for (int i = 0; i < changes; i++) {
                shop.throwAway(15 - 2 * i);
                shop.divide(16, 3 + i, 5);
                shop.toTray(16, i % 5);
                shop.toTray(2 + i, (i + 1) % 5);
            }
            CHECK.due("digest() with gaps in the numbers", shop.digest(), hashOf(answersOf(shop)));
        }
    }

    private static void digestOverflows() {
        CHECK.promise(31, "For each value v of the following list, in order, the hash becomes 31 * hash + v,"
                + " in long arithmetic with overflow");
        for (int lots = 0; lots <= 16; lots++) {
            FishCounter shop = new FishCounter();
            shop.setPrice(0, 9999, 9999);
            for (int i = 0; i < lots; i++) {
                shop.deliver(0, 20000, 100, i / 3);
            }
            CHECK.due("digest() of " + lots + " lots", shop.digest(), hashOf(answersOf(shop)));
        }
    }

    private static void digestChangesNothing() {
        CHECK.promise(31, "Computes a hash of the state");
        for (Supplier<FishCounter> made : SHOPS) {
            CHECK.changesNothing("digest()", made, shop -> shop.digest());
        }
    }
}
