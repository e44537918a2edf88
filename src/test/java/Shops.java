/** Shops that several tests begin with. None has had more than 110 of its 512 calls. */
final class Shops {
    private Shops() {
    }

    static void typeText(FishCounter shop, String text) {
        for (int i = 0; i < text.length(); i++) {
            shop.type(text.charAt(i));
        }
    }

    static FishCounter withText(String text) {
        FishCounter shop = new FishCounter();
        typeText(shop, text);
        return shop;
    }

    /** Lot 1, alone in box 0. */
    static FishCounter withLot(int kind, int grams, int fresh) {
        FishCounter shop = new FishCounter();
        shop.deliver(kind, grams, fresh, 0);
        return shop;
    }

    /**
     * Five saved states and a text; lot 1 in box 0 with ice, lot 2 on tray 1 with ice,
     * lot 3 on tray 4, lot 4 in box 1 and below the limit, lot 5 in box 5.
     */
    static FishCounter stocked() {
        FishCounter shop = withText("0:1000/90@0;1:2000/80@0;2:3000/70@1;1:500/25@1;3:40/60@5");
        shop.deliverAll();
        shop.toTray(2, 1);
        shop.toTray(3, 4);
        shop.iceBox(0, 150);
        shop.iceTray(1, 250);
        typeText(shop, "3:7/7@3");
        return shop;
    }

    /**
     * Six saved states, day 1, hour 2, other settings, some fish sold; lots 1 to 5 as when
     * stocked, but for lot 5, which is gone, and lot 6, a part of lot 2 in box 2.
     */
    static FishCounter busy() {
        FishCounter shop = new FishCounter();
        shop.close();
        typeText(shop, "0:1000/90@0;1:2000/80@0;2:3000/70@1;1:500/45@1;3:40/60@5");
        shop.deliverAll();
        shop.setPrice(1, 1555, 333);
        shop.setMelting(70, 40);
        shop.toTray(2, 1);
        shop.toTray(3, 4);
        shop.iceBox(0, 1000);
        shop.iceBox(3, 200);
        shop.iceTray(1, 500);
        shop.divide(2, 300, 2);
        shop.throwAway(5);
        shop.pass();
        shop.order(1, 100, 0, 9999);
        shop.pass();
        shop.setCut(2, 15);
        typeText(shop, "0:5/9@1;1:6/8@2");
        return shop;
    }

    /** Lots 1 to 16: three in each of the boxes 0 to 4, in their order, and lot 16 in box 5. */
    static FishCounter full() {
        FishCounter shop = new FishCounter();
        for (int i = 0; i < 16; i++) {
            shop.deliver(i % 6, 10 * (i + 1), 90 - i, i / 3);
        }
        return shop;
    }

    /** Lots 1 to 3 in box 0, lot 4 in box 1. */
    static FishCounter withFullBox() {
        FishCounter shop = new FishCounter();
        for (int i = 0; i < 4; i++) {
            shop.deliver(i, 100, 90, i / 3);
        }
        return shop;
    }

    /** The same, but lot 4 is on tray 3. */
    static FishCounter withFullBoxAndTray() {
        FishCounter shop = withFullBox();
        shop.toTray(4, 3);
        return shop;
    }

    /** Box 0 and tray 0 have as much ice as they can. */
    static FishCounter withIcyPlaces() {
        FishCounter shop = new FishCounter();
        shop.iceBox(0, 5000);
        shop.iceTray(0, 5000);
        return shop;
    }

    /** The lot 1 on tray 0 with some ice, and the hour 10. */
    static FishCounter inTheEvening() {
        FishCounter shop = withLot(2, 500, 95);
        shop.toTray(1, 0);
        shop.iceTray(0, 5000);
        for (int hour = 0; hour < 10; hour++) {
            shop.pass();
        }
        return shop;
    }
}
