import java.util.ArrayList;
import java.util.List;

/** What a shop answers to a row of calls, so that two shops can be compared. */
final class Answers {
    private static final int LOT_NUMBERS_TO_ASK = 24;

    private final List<String> list = new ArrayList<>();

    private void add(String call, long answer) {
        list.add(call + " answered " + answer);
    }

    private void add(String call, int first, int second, long answer) {
        add(call + "(" + first + ", " + second + ")", answer);
    }

    private void add(String call, int argument, long answer) {
        add(call + "(" + argument + ")", answer);
    }

    /** All that can be asked, but for the text. */
    static List<String> asked(FishCounter shop) {
        Answers answers = new Answers();
        for (int what = 0; what <= 10; what++) {
            answers.add("count", what, shop.count(what));
        }
        for (int lot = 0; lot < LOT_NUMBERS_TO_ASK; lot++) {
            answers.askLot(shop, lot);
        }
        answers.askPlaces(shop);
        for (int kind = 0; kind < 6; kind++) {
            for (int what = 0; what <= 3; what++) {
                answers.add("kind", kind, what, shop.kind(kind, what));
            }
        }
        for (int hour = 0; hour <= 10; hour++) {
            answers.add("cut", hour, shop.cut(hour));
            answers.add("ifClosed", hour, shop.ifClosed(hour));
        }
        answers.add("worth()", shop.worth());
        answers.add("digest()", shop.digest());
        return answers.list;
    }

    private void askLot(FishCounter shop, int lot) {
        add("lot", lot, 0, shop.lot(lot, 0));
        if (shop.lot(lot, 0) < 0) {
            return;
        }
        for (int what = 1; what <= 6; what++) {
            add("lot", lot, what, shop.lot(lot, what));
        }
        add("freshAfter", lot, 3, shop.freshAfter(lot, 3));
        add("hoursLeft", lot, shop.hoursLeft(lot));
        add("bestHour", lot, shop.bestHour(lot));
    }

    private void askPlaces(FishCounter shop) {
        for (int box = 0; box < 6; box++) {
            for (int what = 0; what <= 3; what++) {
                add("box", box, what, shop.box(box, what));
            }
        }
        for (int tray = 0; tray < 5; tray++) {
            for (int what = 0; what <= 1; what++) {
                add("tray", tray, what, shop.tray(tray, what));
            }
        }
    }

    /** Each undo() that is possible with the digest after it, and one that is not. */
    static List<String> undone(FishCounter shop) {
        Answers answers = new Answers();
        int left = 0;
        while (left >= 0 && answers.list.size() < 100) {
            left = shop.undo();
            answers.add("undo()", left);
            if (left >= 0) {
                answers.add("digest()", shop.digest());
            }
        }
        return answers.list;
    }

    /** Calls that change the shop; the first tells the number of the next lot. */
    static List<String> goneOn(FishCounter shop) {
        Answers answers = new Answers();
        for (int box = 0; box < 6; box++) {
            answers.add("deliver(3, 77, 66, " + box + ")", shop.deliver(3, 77, 66, box));
        }
        answers.add("iceBox(2, 90)", shop.iceBox(2, 90));
        answers.add("iceTray(3, 90)", shop.iceTray(3, 90));
        answers.add("toTray(1, 0)", shop.toTray(1, 0));
        answers.add("toBox(2, 5)", shop.toBox(2, 5));
        answers.add("pass()", shop.pass());
        for (int kind = 0; kind < 6; kind++) {
            answers.add("order(" + kind + ", 50, 0, 9999)", shop.order(kind, 50, 0, 9999));
        }
        answers.add("digest()", shop.digest());
        answers.add("close()", shop.close());
        answers.add("digest()", shop.digest());
        return answers.list;
    }

    /** What can be found out about the text, with the lots that it brings. */
    static List<String> typed(FishCounter shop) {
        Answers answers = new Answers();
        answers.add("syntaxError()", shop.syntaxError());
        answers.add("deliverAll()", shop.deliverAll());
        answers.add("digest()", shop.digest());
        answers.add("type('0')", shop.type('0'));
        answers.add("clearText()", shop.clearText());
        return answers.list;
    }
}
