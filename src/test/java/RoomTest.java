import java.lang.management.ManagementFactory;

/** The calls after the constructor make no objects, and 512 of the dearest ones end soon. */
public final class RoomTest {
    private static final Check CHECK = new Check("RoomTest");
    private static final String TEXT = "0:1/100@5;1:20000/100@5";
    // The machine itself may make a few objects meanwhile; one for each round would be 160,000 bytes.
    private static final long SPARE_BYTES = 20_000;
    private static final int ROUNDS = 10_000;

    public static void main(String[] args) {
        com.sun.management.ThreadMXBean threads =
                (com.sun.management.ThreadMXBean) ManagementFactory.getThreadMXBean();
        FishCounter shop = new FishCounter();
        allCalls(shop, 100);
        long self = Thread.currentThread().getId();
        long before = threads.getThreadAllocatedBytes(self);
        allCalls(shop, ROUNDS);
        long made = threads.getThreadAllocatedBytes(self) - before;
        CHECK.holds("bytes made in " + ROUNDS + " rounds are few: " + made, made < SPARE_BYTES);
        CHECK.finish();
    }

    private static void allCalls(FishCounter shop, int rounds) {
        for (int round = 0; round < rounds; round++) {
            int lot = shop.deliver(0, 100, 100, 0);
            shop.setPrice(0, 1000, 400);
            shop.setCut(0, 10);
            shop.setMelting(10, 30);
            shop.iceBox(0, 100);
            shop.iceTray(0, 100);
            shop.divide(lot, 50, 1);
            shop.toTray(lot, 0);
            shop.order(0, 10, 0, 9999);
            shop.pass();
            shop.toBox(lot, 2);
            askAll(shop, lot);
            shop.clearText();
            for (int i = 0; i < TEXT.length(); i++) {
                shop.type(TEXT.charAt(i));
            }
            shop.syntaxError();
            shop.deliverAll();
            shop.digest();
            shop.undo();
            shop.close();
            shop.throwAway(lot);
            shop.throwAway(lot + 1);
        }
    }

    private static void askAll(FishCounter shop, int lot) {
        shop.count(3);
        shop.lot(lot, 6);
        shop.box(0, 3);
        shop.tray(0, 1);
        shop.kind(0, 3);
        shop.cut(0);
        shop.freshAfter(lot, 100);
        shop.hoursLeft(lot);
        shop.bestHour(lot);
        shop.ifClosed(10);
        shop.worth();
    }
}
