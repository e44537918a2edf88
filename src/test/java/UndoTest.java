/** Promises 30 and 31: undo, digest. */
public final class UndoTest {
    private static final Check CHECK = new Check("UndoTest");

    public static void main(String[] args) {
        undoOfEachCall();
        undoOfEachSetting();
        undoKeepsSixStates();
        undoGoesOnAfterNewCalls();
        refusedCallsSaveNothing();
        askingSavesNothing();
        digestOfANewShop();
        digestOfFish();
        digestSeesTheState();
        CHECK.finish();
    }

    private static FishCounter shopWithFish() {
        FishCounter shop = new FishCounter();
        shop.deliver(0, 1000, 90, 0);
        shop.deliver(1, 1000, 20, 1);
        shop.deliver(2, 1000, 80, 2);
        shop.toTray(3, 0);
        shop.iceTray(0, 500);
        shop.iceBox(0, 500);
        return shop;
    }

    private static int makeCall(FishCounter shop, int call) {
        switch (call) {
            case 0: return shop.setPrice(0, 5000, 300);
            case 1: return shop.setCut(0, 20);
            case 2: return shop.setMelting(7, 50);
            case 3: return shop.deliver(4, 10, 50, 4);
            case 4: return shop.iceBox(0, 10);
            case 5: return shop.iceTray(0, 10);
            case 6: return shop.toTray(1, 1);
            case 7: return shop.toBox(1, 1);
            case 8: return shop.divide(1, 10, 5);
            case 9: return shop.throwAway(1);
            case 10: return shop.order(2, 10, 0, 9999);
            case 11: return shop.pass();
            case 12: return shop.close();
            default: return deliverOneByText(shop);
        }
    }

    private static int deliverOneByText(FishCounter shop) {
        String text = "0:1/1@5";
        for (int i = 0; i < text.length(); i++) {
            shop.type(text.charAt(i));
        }
        return shop.deliverAll();
    }

    private static void undoOfEachCall() {
        for (int call = 0; call <= 13; call++) {
            FishCounter shop = shopWithFish();
            long before = shop.digest();
            CHECK.holds("call " + call + " is possible", makeCall(shop, call) >= 0);
            CHECK.holds("call " + call + " changes the state", shop.digest() != before);
            CHECK.due("undo() of call " + call, shop.undo(), 5);
            CHECK.sameState("undo of call " + call, shop, before);
        }
    }

    private static void undoOfEachSetting() {
        for (int number = 0; number <= 10; number++) {
            FishCounter shop = shopWithFish();
            long before = shop.digest();
            int calls = shop.setCut(number, 77) < 0 ? 0 : 1;
            calls += shop.setPrice(number, 77, 77) < 0 ? 0 : 1;
            calls += shop.iceBox(number, 77) < 0 ? 0 : 1;
            calls += shop.iceTray(number, 77) < 0 ? 0 : 1;
            CHECK.due("calls that are possible", calls, number < 5 ? 4 : number < 6 ? 3 : 1);
            for (int i = 0; i < calls; i++) {
                CHECK.due("undo()", shop.undo(), 5 - i);
            }
            CHECK.sameState("undo of settings " + number, shop, before);
        }
    }

    private static void undoKeepsSixStates() {
        FishCounter shop = new FishCounter();
        for (int i = 1; i <= 8; i++) {
            CHECK.due("iceBox(0, 1)", shop.iceBox(0, 1), i);
        }
        for (int left = 5; left >= 0; left--) {
            CHECK.due("undo()", shop.undo(), left);
            CHECK.due("box(0, 0)", shop.box(0, 0), 2 + left);
        }
        long before = shop.digest();
        CHECK.due("undo(), none is saved", shop.undo(), -3);
        CHECK.sameState("undo refused", shop, before);
    }

    private static void undoGoesOnAfterNewCalls() {
        FishCounter shop = new FishCounter();
        for (int i = 0; i < 7; i++) {
            shop.iceBox(0, 1);
        }
        shop.undo();
        shop.undo();
        CHECK.due("box(0, 0)", shop.box(0, 0), 5);
        shop.iceBox(0, 100);
        CHECK.due("undo()", shop.undo(), 4);
        CHECK.due("box(0, 0)", shop.box(0, 0), 5);
        CHECK.due("undo()", shop.undo(), 3);
        CHECK.due("box(0, 0)", shop.box(0, 0), 4);
    }

    private static void refusedCallsSaveNothing() {
        FishCounter shop = new FishCounter();
        shop.setPrice(6, 1, 1);
        shop.setCut(11, 1);
        shop.setMelting(501, 1);
        shop.deliver(0, 0, 1, 0);
        shop.iceBox(0, 0);
        shop.iceTray(0, 0);
        shop.toTray(1, 0);
        shop.toBox(1, 0);
        shop.divide(1, 1, 0);
        shop.throwAway(1);
        shop.order(0, 0, 0, 1);
        shop.deliverAll();
        CHECK.due("undo()", shop.undo(), -3);
    }

    private static void askingSavesNothing() {
        FishCounter shop = shopWithFish();
        shop.count(0);
        shop.lot(1, 0);
        shop.box(0, 0);
        shop.tray(0, 0);
        shop.kind(0, 0);
        shop.cut(0);
        shop.freshAfter(1, 5);
        shop.hoursLeft(1);
        shop.bestHour(1);
        shop.ifClosed(5);
        shop.worth();
        shop.syntaxError();
        shop.digest();
        CHECK.due("undo() of iceBox", shop.undo(), 5);
        CHECK.due("box(0, 0)", shop.box(0, 0), 0);
    }

    private static long hashOf(long[] values) {
        long hash = 186;
        for (long value : values) {
            hash = 31 * hash + value;
        }
        return hash;
    }

    private static void digestOfANewShop() {
        long[] values = {
            0, 0, 0, 0, 0, 0, 0, 0, 0, 100, 30,
            0, 0, 0, -6, 0, 0, 0, -6, 0, 0, 0, -6, 0, 0, 0, -6, 0, 0, 0, -6, 0, 0, 0, -6,
            0, -6, 0, -6, 0, -6, 0, -6, 0, -6,
            1000, 400, 0, -6, 1200, 500, 0, -6, 1400, 600, 0, -6,
            1600, 700, 0, -6, 1800, 800, 0, -6, 2000, 900, 0, -6,
            0, 0, 0, 0, 0, 0, 0, 0, 0, 0, 0,
            0,
        };
        CHECK.due("digest()", new FishCounter().digest(), hashOf(values));
    }

    private static void digestOfFish() {
        FishCounter shop = new FishCounter();
        shop.deliver(1, 2000, 100, 5);
        shop.deliver(1, 100, 29, 5);
        shop.deliver(0, 1000, 90, 0);
        shop.toTray(3, 4);
        shop.throwAway(2);
        shop.order(0, 500, 0, 9999);
        shop.iceTray(4, 350);
        shop.iceBox(2, 60);
        shop.setCut(0, 10);
        shop.setCut(10, 90);
        long[] values = {
            0, 0, 2, 2500, 3100, 500, 100, 1000 + 50 + 400, 475, 100, 30,
            1, 1, 2000, 100, 5, -6, 1080, 2160, 11, 1,
            3, 0, 500, 90, -6, 4, 855, 427, 8, 1,
            0, 0, 0, -6, 0, 0, 0, -6, 60, 0, 0, -6, 0, 0, 0, -6, 0, 0, 0, -6, 0, 1, 2000, 1,
            0, -6, 0, -6, 0, -6, 0, -6, 350, 3,
            1000, 400, 500, 3, 1200, 500, 2000, 1, 1400, 600, 0, -6,
            1600, 700, 0, -6, 1800, 800, 0, -6, 2000, 900, 0, -6,
            10, 0, 0, 0, 0, 0, 0, 0, 0, 0, 90,
            2160 + 427,
        };
        CHECK.due("digest()", shop.digest(), hashOf(values));
    }

    private static void digestSeesTheState() {
        FishCounter shop = shopWithFish();
        CHECK.due("the same calls, the same digest", shop.digest(), shopWithFish().digest());
        CHECK.due("asked twice", shop.digest(), shop.digest());
    }
}
