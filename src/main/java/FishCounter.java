/**
 * A fishmonger's counter. Everything that the calls need is made in the constructor,
 * so that no later call makes an object.
 */
public final class FishCounter {
    public static final int NO_SUCH = -1;
    public static final int BAD_VALUE = -2;
    public static final int NOT_POSSIBLE = -3;
    public static final int LIMIT = -4;
    public static final int BAD_TEXT = -5;
    public static final int NONE = -6;

    private static final int FINE = 0;

    private static final int KINDS = 6;
    private static final int BOXES = 6;
    private static final int TRAYS = 5;
    private static final int LAST_HOUR = 10;
    private static final int LAST_DAY = 999;
    private static final int MOST_LOTS = 16;
    private static final int MOST_LOTS_IN_BOX = 3;
    private static final int MOST_GRAMS = 20000;
    private static final int MOST_FRESH = 100;
    private static final int MOST_PRICE = 9999;
    private static final int MOST_CUT = 90;
    private static final int MOST_MELTING = 500;
    private static final int MOST_ICE = 5000;
    private static final int MOST_HOURS_AHEAD = 100;
    private static final int MOST_SAVED = 6;
    private static final int MOST_TEXT = 80;
    private static final int FIRST_SIGN = 33;
    private static final int LAST_SIGN = 126;

    private static final int COUNTS = 11;
    private static final int LOT_NUMBERS = 7;
    private static final int BOX_NUMBERS = 4;
    private static final int TRAY_NUMBERS = 2;
    private static final int KIND_NUMBERS = 4;

    private final Shop now;
    private final Shop trial;
    private final Forecast forecast;
    private final History history;
    private final DeliveryText text;

    public FishCounter() {
        now = new Shop();
        trial = new Shop();
        forecast = new Forecast();
        history = new History();
        text = new DeliveryText();
    }

    // ---- settings

    public int setPrice(int kind, int price, int cost) {
        if (!isKind(kind)) {
            return NO_SUCH;
        }
        if (!within(price, 1, MOST_PRICE) || !within(cost, 1, MOST_PRICE)) {
            return BAD_VALUE;
        }
        history.save(now);
        int previous = now.prices[kind];
        now.prices[kind] = price;
        now.costs[kind] = cost;
        return previous;
    }

    public int setCut(int hour, int percent) {
        if (!isHour(hour)) {
            return NO_SUCH;
        }
        if (!within(percent, 0, MOST_CUT)) {
            return BAD_VALUE;
        }
        history.save(now);
        int previous = now.cuts[hour];
        now.cuts[hour] = percent;
        return previous;
    }

    public int setMelting(int melting, int limit) {
        if (!within(melting, 0, MOST_MELTING) || !within(limit, 0, MOST_FRESH)) {
            return BAD_VALUE;
        }
        history.save(now);
        int previous = now.limit;
        now.melting = melting;
        now.limit = limit;
        return previous;
    }

    // ---- fish and ice

    public int deliver(int kind, int grams, int fresh, int box) {
        if (!isKind(kind) || !isBox(box)) {
            return NO_SUCH;
        }
        if (!within(grams, 1, MOST_GRAMS) || !within(fresh, 0, MOST_FRESH)) {
            return BAD_VALUE;
        }
        int refusal = now.refusalOfNewLot(box);
        if (refusal != FINE) {
            return refusal;
        }
        history.save(now);
        return now.buyLot(kind, grams, fresh, box);
    }

    public int iceBox(int box, int grams) {
        if (!isBox(box)) {
            return NO_SUCH;
        }
        if (!within(grams, 1, MOST_ICE)) {
            return BAD_VALUE;
        }
        history.save(now);
        now.boxIce[box] = Math.min(MOST_ICE, now.boxIce[box] + grams);
        return now.boxIce[box];
    }

    public int iceTray(int tray, int grams) {
        if (!isTray(tray)) {
            return NO_SUCH;
        }
        if (!within(grams, 1, MOST_ICE)) {
            return BAD_VALUE;
        }
        history.save(now);
        now.trayIce[tray] = Math.min(MOST_ICE, now.trayIce[tray] + grams);
        return now.trayIce[tray];
    }

    public int toTray(int lot, int tray) {
        Lot moved = now.findLot(lot);
        if (moved == null || !isTray(tray)) {
            return NO_SUCH;
        }
        if (now.indexOnTray(tray) != NONE) {
            return NOT_POSSIBLE;
        }
        history.save(now);
        moved.putOnTray(tray);
        return now.priceOf(moved);
    }

    public int toBox(int lot, int box) {
        Lot moved = now.findLot(lot);
        if (moved == null || !isBox(box)) {
            return NO_SUCH;
        }
        if (moved.box == box || now.isBoxFull(box)) {
            return NOT_POSSIBLE;
        }
        history.save(now);
        moved.putInBox(box);
        return now.lotsInBox(box);
    }

    public int divide(int lot, int grams, int box) {
        Lot divided = now.findLot(lot);
        if (divided == null || !isBox(box)) {
            return NO_SUCH;
        }
        if (!within(grams, 1, MOST_GRAMS - 1)) {
            return BAD_VALUE;
        }
        if (grams >= divided.grams) {
            return NOT_POSSIBLE;
        }
        int refusal = now.refusalOfNewLot(box);
        if (refusal != FINE) {
            return refusal;
        }
        history.save(now);
        divided.grams -= grams;
        return now.addLot(divided.kind, grams, divided.fresh, box);
    }

    public int throwAway(int lot) {
        int index = now.indexOfLot(lot);
        if (index == NONE) {
            return NO_SUCH;
        }
        history.save(now);
        return now.discardLotAt(index);
    }

    // ---- sales and hours

    public int order(int kind, int grams, int fresh, int price) {
        if (!isKind(kind)) {
            return NO_SUCH;
        }
        if (!within(grams, 1, MOST_GRAMS) || !within(fresh, 0, MOST_FRESH)
                || !within(price, 1, MOST_PRICE)) {
            return BAD_VALUE;
        }
        history.save(now);
        return now.sell(kind, grams, fresh, price);
    }

    public int pass() {
        if (now.hour >= LAST_HOUR) {
            return NOT_POSSIBLE;
        }
        history.save(now);
        now.passHour();
        return now.hour;
    }

    public int close() {
        if (now.day >= LAST_DAY) {
            return LIMIT;
        }
        history.save(now);
        return now.closeDay();
    }

    // ---- asking

    public long count(int what) {
        switch (what) {
            case 0:
                return now.day;
            case 1:
                return now.hour;
            case 2:
                return now.lotCount;
            case 3:
                return now.gramsInShop();
            case 4:
                return now.gramsCame;
            case 5:
                return now.gramsSold;
            case 6:
                return now.gramsThrownAway;
            case 7:
                return now.moneyPaid;
            case 8:
                return now.moneyTaken;
            case 9:
                return now.melting;
            case 10:
                return now.limit;
            default:
                return BAD_VALUE;
        }
    }

    public int lot(int lot, int what) {
        Lot asked = now.findLot(lot);
        if (asked == null) {
            return NO_SUCH;
        }
        switch (what) {
            case 0:
                return asked.kind;
            case 1:
                return asked.grams;
            case 2:
                return asked.fresh;
            case 3:
                return asked.box;
            case 4:
                return asked.tray;
            case 5:
                return now.priceOf(asked);
            case 6:
                return moneyFor(asked.grams, now.priceOf(asked));
            default:
                return BAD_VALUE;
        }
    }

    public int box(int box, int what) {
        if (!isBox(box)) {
            return NO_SUCH;
        }
        switch (what) {
            case 0:
                return now.boxIce[box];
            case 1:
                return now.lotsInBox(box);
            case 2:
                return now.gramsInBox(box);
            case 3:
                return now.firstLotInBox(box);
            default:
                return BAD_VALUE;
        }
    }

    public int tray(int tray, int what) {
        if (!isTray(tray)) {
            return NO_SUCH;
        }
        switch (what) {
            case 0:
                return now.trayIce[tray];
            case 1:
                return now.numberOnTray(tray);
            default:
                return BAD_VALUE;
        }
    }

    public int kind(int kind, int what) {
        if (!isKind(kind)) {
            return NO_SUCH;
        }
        switch (what) {
            case 0:
                return now.prices[kind];
            case 1:
                return now.costs[kind];
            case 2:
                return now.gramsOfKind(kind);
            case 3:
                return now.freshestLotOfKind(kind);
            default:
                return BAD_VALUE;
        }
    }

    public int cut(int hour) {
        if (!isHour(hour)) {
            return NO_SUCH;
        }
        return now.cuts[hour];
    }

    // ---- forecasts; they change nothing

    public int freshAfter(int lot, int hours) {
        Lot asked = now.findLot(lot);
        if (asked == null) {
            return NO_SUCH;
        }
        if (!within(hours, 0, MOST_HOURS_AHEAD)) {
            return BAD_VALUE;
        }
        forecast.start(now, asked);
        for (int passed = 0; passed < hours; passed++) {
            forecast.passHour();
        }
        return forecast.fresh;
    }

    public int hoursLeft(int lot) {
        Lot asked = now.findLot(lot);
        if (asked == null) {
            return NO_SUCH;
        }
        if (asked.fresh < now.limit) {
            return NONE;
        }
        forecast.start(now, asked);
        for (int hours = 0; hours < MOST_HOURS_AHEAD; hours++) {
            forecast.passHour();
            if (forecast.fresh < now.limit) {
                return hours;
            }
        }
        return MOST_HOURS_AHEAD;
    }

    public int bestHour(int lot) {
        Lot asked = now.findLot(lot);
        if (asked == null) {
            return NO_SUCH;
        }
        int best = now.hour;
        int most = -1;
        forecast.start(now, asked);
        for (int hour = now.hour; hour <= LAST_HOUR; hour++) {
            int money = moneyFor(asked.grams, now.priceAt(asked.kind, forecast.fresh, hour));
            if (money > most) {
                most = money;
                best = hour;
            }
            forecast.passHour();
        }
        return best;
    }

    public int ifClosed(int hours) {
        if (!within(hours, 0, LAST_HOUR)) {
            return BAD_VALUE;
        }
        trial.copyFrom(now);
        for (int passed = 0; passed < hours && trial.hour < LAST_HOUR; passed++) {
            trial.passHour();
        }
        return trial.closeDay();
    }

    public long worth() {
        long sum = 0;
        for (int i = 0; i < now.lotCount; i++) {
            Lot each = now.lots[i];
            if (each.fresh >= now.limit) {
                sum += moneyFor(each.grams, now.priceOf(each));
            }
        }
        return sum;
    }

    // ---- text

    public int type(int code) {
        if (!within(code, FIRST_SIGN, LAST_SIGN)) {
            return BAD_VALUE;
        }
        if (text.length >= MOST_TEXT) {
            return LIMIT;
        }
        text.append((char) code);
        return text.length;
    }

    public int clearText() {
        int previous = text.length;
        text.length = 0;
        return previous;
    }

    public int syntaxError() {
        return text.firstError();
    }

    public int deliverAll() {
        if (text.firstError() != NONE) {
            return BAD_TEXT;
        }
        history.save(now);
        int taken = 0;
        text.startReading();
        while (taken < MOST_LOTS && text.readItem()) {
            if (now.refusalOfNewLot(text.box) != FINE) {
                break;
            }
            now.buyLot(text.kind, text.grams, text.fresh, text.box);
            taken++;
            text.skipSign(';');
        }
        text.length = 0;
        return taken;
    }

    // ---- undo

    public int undo() {
        if (history.count == 0) {
            return NOT_POSSIBLE;
        }
        history.restore(now);
        return history.count;
    }

    public long digest() {
        long hash = 186;
        for (int what = 0; what < COUNTS; what++) {
            hash = mixed(hash, count(what));
        }
        for (int i = 0; i < now.lotCount; i++) {
            hash = mixedWithLot(hash, now.lots[i].number);
        }
        hash = mixedWithPlaces(hash);
        for (int kind = 0; kind < KINDS; kind++) {
            for (int what = 0; what < KIND_NUMBERS; what++) {
                hash = mixed(hash, kind(kind, what));
            }
        }
        for (int hour = 0; hour <= LAST_HOUR; hour++) {
            hash = mixed(hash, cut(hour));
        }
        return mixed(hash, worth());
    }

    private long mixedWithLot(long before, int number) {
        long hash = mixed(before, number);
        for (int what = 0; what < LOT_NUMBERS; what++) {
            hash = mixed(hash, lot(number, what));
        }
        hash = mixed(hash, hoursLeft(number));
        return mixed(hash, bestHour(number));
    }

    private long mixedWithPlaces(long before) {
        long hash = before;
        for (int box = 0; box < BOXES; box++) {
            for (int what = 0; what < BOX_NUMBERS; what++) {
                hash = mixed(hash, box(box, what));
            }
        }
        for (int tray = 0; tray < TRAYS; tray++) {
            for (int what = 0; what < TRAY_NUMBERS; what++) {
                hash = mixed(hash, tray(tray, what));
            }
        }
        return hash;
    }

    private static long mixed(long hash, long value) {
        return 31 * hash + value;
    }

    private static boolean within(int value, int least, int most) {
        return least <= value && value <= most;
    }

    private static boolean isKind(int kind) {
        return within(kind, 0, KINDS - 1);
    }

    private static boolean isBox(int box) {
        return within(box, 0, BOXES - 1);
    }

    private static boolean isTray(int tray) {
        return within(tray, 0, TRAYS - 1);
    }

    private static boolean isHour(int hour) {
        return within(hour, 0, LAST_HOUR);
    }

    private static int moneyFor(int grams, int pricePerKilogram) {
        return grams * pricePerKilogram / 1000;
    }

    private static int freshAnHourLater(int fresh, boolean onTray, int ice) {
        int loss;
        if (onTray) {
            loss = ice > 0 ? 2 : 9;
        } else {
            loss = ice > 0 ? 1 : 6;
        }
        return Math.max(0, fresh - loss);
    }

    private static int iceAnHourLater(int ice, boolean onTray, int melting) {
        return Math.max(0, ice - (onTray ? 2 * melting : melting));
    }

    /** A lot is in a box or on a tray; the other of the two is NONE. */
    private static final class Lot {
        int number;
        int kind;
        int grams;
        int fresh;
        int box = NONE;
        int tray = NONE;

        boolean isOnTray() {
            return tray != NONE;
        }

        void putInBox(int newBox) {
            box = newBox;
            tray = NONE;
        }

        void putOnTray(int newTray) {
            tray = newTray;
            box = NONE;
        }

        void copyFrom(Lot other) {
            number = other.number;
            kind = other.kind;
            grams = other.grams;
            fresh = other.fresh;
            box = other.box;
            tray = other.tray;
        }
    }

    /** All that undo() brings back. */
    private static final class Shop {
        int day;
        int hour;
        int melting = 100;
        int limit = 30;
        int lastNumber;
        int lotCount;
        long gramsCame;
        long gramsSold;
        long gramsThrownAway;
        long moneyPaid;
        long moneyTaken;
        final int[] prices = new int[KINDS];
        final int[] costs = new int[KINDS];
        final int[] cuts = new int[LAST_HOUR + 1];
        final int[] boxIce = new int[BOXES];
        final int[] trayIce = new int[TRAYS];
        // Ascending by number; those from lotCount on are spare, so that no call makes an object.
        final Lot[] lots = new Lot[MOST_LOTS];

        Shop() {
            for (int kind = 0; kind < KINDS; kind++) {
                prices[kind] = 1000 + 200 * kind;
                costs[kind] = 400 + 100 * kind;
            }
            for (int i = 0; i < MOST_LOTS; i++) {
                lots[i] = new Lot();
            }
        }

        void copyFrom(Shop other) {
            day = other.day;
            hour = other.hour;
            melting = other.melting;
            limit = other.limit;
            lastNumber = other.lastNumber;
            lotCount = other.lotCount;
            gramsCame = other.gramsCame;
            gramsSold = other.gramsSold;
            gramsThrownAway = other.gramsThrownAway;
            moneyPaid = other.moneyPaid;
            moneyTaken = other.moneyTaken;
            System.arraycopy(other.prices, 0, prices, 0, KINDS);
            System.arraycopy(other.costs, 0, costs, 0, KINDS);
            System.arraycopy(other.cuts, 0, cuts, 0, LAST_HOUR + 1);
            System.arraycopy(other.boxIce, 0, boxIce, 0, BOXES);
            System.arraycopy(other.trayIce, 0, trayIce, 0, TRAYS);
            for (int i = 0; i < lotCount; i++) {
                lots[i].copyFrom(other.lots[i]);
            }
        }

        int indexOfLot(int number) {
            for (int i = 0; i < lotCount; i++) {
                if (lots[i].number == number) {
                    return i;
                }
            }
            return NONE;
        }

        Lot findLot(int number) {
            int index = indexOfLot(number);
            return index == NONE ? null : lots[index];
        }

        int indexOnTray(int tray) {
            for (int i = 0; i < lotCount; i++) {
                if (lots[i].tray == tray) {
                    return i;
                }
            }
            return NONE;
        }

        int numberOnTray(int tray) {
            int index = indexOnTray(tray);
            return index == NONE ? NONE : lots[index].number;
        }

        int lotsInBox(int box) {
            int count = 0;
            for (int i = 0; i < lotCount; i++) {
                if (lots[i].box == box) {
                    count++;
                }
            }
            return count;
        }

        boolean isBoxFull(int box) {
            return lotsInBox(box) >= MOST_LOTS_IN_BOX;
        }

        int gramsInBox(int box) {
            int grams = 0;
            for (int i = 0; i < lotCount; i++) {
                if (lots[i].box == box) {
                    grams += lots[i].grams;
                }
            }
            return grams;
        }

        int firstLotInBox(int box) {
            for (int i = 0; i < lotCount; i++) {
                if (lots[i].box == box) {
                    return lots[i].number;
                }
            }
            return NONE;
        }

        int gramsInShop() {
            int grams = 0;
            for (int i = 0; i < lotCount; i++) {
                grams += lots[i].grams;
            }
            return grams;
        }

        int gramsOfKind(int kind) {
            int grams = 0;
            for (int i = 0; i < lotCount; i++) {
                if (lots[i].kind == kind) {
                    grams += lots[i].grams;
                }
            }
            return grams;
        }

        int freshestLotOfKind(int kind) {
            int number = NONE;
            int freshest = -1;
            for (int i = 0; i < lotCount; i++) {
                if (lots[i].kind == kind && lots[i].fresh > freshest) {
                    freshest = lots[i].fresh;
                    number = lots[i].number;
                }
            }
            return number;
        }

        int priceAt(int kind, int fresh, int atHour) {
            int byFreshness = prices[kind] * (50 + fresh / 2) / 100;
            return byFreshness * (100 - cuts[atHour]) / 100;
        }

        int priceOf(Lot lot) {
            return priceAt(lot.kind, lot.fresh, hour);
        }

        int iceAt(Lot lot) {
            if (isTray(lot.tray)) {
                return trayIce[lot.tray];
            }
            return isBox(lot.box) ? boxIce[lot.box] : 0;
        }

        int refusalOfNewLot(int box) {
            if (isBoxFull(box)) {
                return NOT_POSSIBLE;
            }
            return lotCount >= MOST_LOTS ? LIMIT : FINE;
        }

        /** Only after refusalOfNewLot() found it FINE. */
        int addLot(int kind, int grams, int fresh, int box) {
            lastNumber++;
            Lot added = lots[lotCount];
            added.number = lastNumber;
            added.kind = kind;
            added.grams = grams;
            added.fresh = fresh;
            added.putInBox(box);
            lotCount++;
            return lastNumber;
        }

        int buyLot(int kind, int grams, int fresh, int box) {
            gramsCame += grams;
            moneyPaid += moneyFor(grams, costs[kind]);
            return addLot(kind, grams, fresh, box);
        }

        void removeLotAt(int index) {
            Lot spare = lots[index];
            for (int i = index; i < lotCount - 1; i++) {
                lots[i] = lots[i + 1];
            }
            lotCount--;
            lots[lotCount] = spare;
        }

        int discardLotAt(int index) {
            int grams = lots[index].grams;
            gramsThrownAway += grams;
            removeLotAt(index);
            return grams;
        }

        int sell(int kind, int grams, int fresh, int price) {
            int wanted = grams;
            // Each round but the last empties a tray, so there are no more rounds than trays.
            for (int round = 0; round < TRAYS && wanted > 0; round++) {
                int index = nextLotToSell(kind, Math.max(fresh, limit), price);
                if (index == NONE) {
                    break;
                }
                wanted -= sellFromLotAt(index, wanted);
            }
            return grams - wanted;
        }

        int nextLotToSell(int kind, int leastFresh, int price) {
            int found = NONE;
            for (int i = 0; i < lotCount; i++) {
                Lot each = lots[i];
                boolean fits = each.isOnTray() && each.kind == kind
                        && each.fresh >= leastFresh && priceOf(each) <= price;
                if (fits && (found == NONE || each.fresh < lots[found].fresh)) {
                    found = i;
                }
            }
            return found;
        }

        int sellFromLotAt(int index, int wanted) {
            Lot sold = lots[index];
            int grams = Math.min(wanted, sold.grams);
            moneyTaken += moneyFor(grams, priceOf(sold));
            gramsSold += grams;
            sold.grams -= grams;
            if (sold.grams == 0) {
                removeLotAt(index);
            }
            return grams;
        }

        void passHour() {
            for (int i = 0; i < lotCount; i++) {
                Lot each = lots[i];
                each.fresh = freshAnHourLater(each.fresh, each.isOnTray(), iceAt(each));
            }
            for (int box = 0; box < BOXES; box++) {
                boxIce[box] = iceAnHourLater(boxIce[box], false, melting);
            }
            for (int tray = 0; tray < TRAYS; tray++) {
                trayIce[tray] = iceAnHourLater(trayIce[tray], true, melting);
            }
            hour++;
        }

        int closeDay() {
            int grams = discardLotsBelowLimit();
            for (int tray = 0; tray < TRAYS; tray++) {
                grams += clearTray(tray);
            }
            day++;
            hour = 0;
            return grams;
        }

        int discardLotsBelowLimit() {
            int grams = 0;
            // Downwards, since the lots behind a removed one move up.
            for (int i = lotCount - 1; i >= 0; i--) {
                if (lots[i].fresh < limit) {
                    grams += discardLotAt(i);
                }
            }
            return grams;
        }

        int clearTray(int tray) {
            trayIce[tray] = 0;
            int index = indexOnTray(tray);
            if (index == NONE) {
                return 0;
            }
            int box = boxForTheNight();
            if (box == NONE) {
                return discardLotAt(index);
            }
            lots[index].putInBox(box);
            return 0;
        }

        int boxForTheNight() {
            int found = NONE;
            int mostIce = -1;
            for (int box = 0; box < BOXES; box++) {
                if (!isBoxFull(box) && boxIce[box] > mostIce) {
                    mostIce = boxIce[box];
                    found = box;
                }
            }
            return found;
        }
    }

    /** How one lot would go on, hour by hour, where it stays without new ice. */
    private static final class Forecast {
        int fresh;
        private int ice;
        private int melting;
        private boolean onTray;

        void start(Shop shop, Lot lot) {
            fresh = lot.fresh;
            ice = shop.iceAt(lot);
            melting = shop.melting;
            onTray = lot.isOnTray();
        }

        void passHour() {
            fresh = freshAnHourLater(fresh, onTray, ice);
            ice = iceAnHourLater(ice, onTray, melting);
        }
    }

    /** The saved states in a ring, so that a seventh one takes the place of the oldest. */
    private static final class History {
        int count;
        private int next;
        private final Shop[] saved = new Shop[MOST_SAVED];

        History() {
            for (int i = 0; i < MOST_SAVED; i++) {
                saved[i] = new Shop();
            }
        }

        void save(Shop shop) {
            saved[next].copyFrom(shop);
            next = (next + 1) % MOST_SAVED;
            count = Math.min(MOST_SAVED, count + 1);
        }

        /** Only while count is above 0. */
        void restore(Shop shop) {
            next = (next + MOST_SAVED - 1) % MOST_SAVED;
            shop.copyFrom(saved[next]);
            count--;
        }
    }

    /** The text, and a reader that stands still at the first sign that does not fit. */
    private static final class DeliveryText {
        int length;
        int kind;
        int grams;
        int fresh;
        int box;
        private int position;
        private final char[] signs = new char[MOST_TEXT];

        /** Only while length is below MOST_TEXT. */
        void append(char sign) {
            signs[length] = sign;
            length++;
        }

        int firstError() {
            startReading();
            // No text has more items than signs.
            for (int items = 0; items < MOST_TEXT; items++) {
                if (!readItem()) {
                    return position;
                }
                if (position >= length) {
                    return NONE;
                }
                if (!skipSign(';')) {
                    return position;
                }
            }
            return position;
        }

        void startReading() {
            position = 0;
        }

        boolean readItem() {
            kind = readNumber(0, KINDS - 1);
            if (kind == NONE || !skipSign(':')) {
                return false;
            }
            grams = readNumber(1, MOST_GRAMS);
            if (grams == NONE || !skipSign('/')) {
                return false;
            }
            fresh = readNumber(0, MOST_FRESH);
            if (fresh == NONE || !skipSign('@')) {
                return false;
            }
            box = readNumber(0, BOXES - 1);
            return box != NONE;
        }

        boolean skipSign(char sign) {
            if (position >= length || signs[position] != sign) {
                return false;
            }
            position++;
            return true;
        }

        /** NONE if no such number begins here; a digit too many is left for the next sign to refuse. */
        private int readNumber(int least, int most) {
            int value = digitHere();
            if (value == NONE || !within(value, least, most)) {
                return NONE;
            }
            position++;
            if (value == 0) {
                return value;
            }
            while (position < length) {
                int digit = digitHere();
                if (digit == NONE || 10 * value + digit > most) {
                    break;
                }
                value = 10 * value + digit;
                position++;
            }
            return value;
        }

        private int digitHere() {
            if (position >= length) {
                return NONE;
            }
            char sign = signs[position];
            return sign >= '0' && sign <= '9' ? sign - '0' : NONE;
        }
    }
}
