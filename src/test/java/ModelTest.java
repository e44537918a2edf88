import java.util.Random;

/** Long runs of made-up calls, each answer compared with that of PlainShop; the seeds are fixed. */
public final class ModelTest {
    private static final Check CHECK = new Check("ModelTest");
    private static final int RUNS = 400;
    private static final int CALLS = 512;
    private static final String SIGNS = "0123456789:/@;x";

    private final Random random;
    private final FishCounter shop = new FishCounter();
    private final PlainShop plain = new PlainShop();
    private final String name;
    private int calls;

    private ModelTest(int seed) {
        random = new Random(seed);
        name = "run " + seed + ", call ";
    }

    public static void main(String[] args) {
        for (int seed = 1; seed <= RUNS; seed++) {
            new ModelTest(seed).run();
        }
        CHECK.finish();
    }

    private void run() {
        while (calls < CALLS - 1) {
            int choice = random.nextInt(100);
            if (choice < 55) {
                change();
            } else if (choice < 80) {
                ask();
            } else if (choice < 90) {
                forecast();
            } else if (choice < 92 && calls < CALLS - 100) {
                typeText();
            } else if (choice < 97) {
                due("undo()", shop.undo(), plain.undo());
            } else {
                due("digest()", shop.digest(), plain.digest());
            }
        }
        due("digest()", shop.digest(), plain.digest());
    }

    private void due(String call, long got, long want) {
        calls++;
        CHECK.due(name + calls + ": " + call, got, want);
    }

    /** Mostly in the range, with its ends more often than the rest, sometimes just or far outside. */
    private int near(int least, int most) {
        switch (random.nextInt(24)) {
            case 0: return random.nextInt(4) > 0 ? least - 1 : Integer.MIN_VALUE + random.nextInt(2);
            case 1: return random.nextInt(4) > 0 ? most + 1 : Integer.MAX_VALUE - random.nextInt(2);
            case 2: return least;
            case 3: return most;
            default: return least + random.nextInt(most - least + 1);
        }
    }

    /** Looked up in the plain shop, so that the other one has no more than its 512 calls. */
    private int someLot() {
        int lots = (int) plain.count(2);
        int number = 0;
        int skip = lots == 0 ? 0 : random.nextInt(lots);
        while (lots > 0 && number < 600) {
            number++;
            if (plain.lot(number, 0) != -1 && skip-- == 0) {
                return number;
            }
        }
        return near(0, 20);
    }

    private int maybeLot() {
        return random.nextInt(10) == 0 ? near(0, 40) : someLot();
    }

    private int grams(int most) {
        return random.nextBoolean() ? near(1, most) : near(1, 50);
    }

    private void change() {
        int a;
        int b;
        int c;
        int d;
        switch (random.nextInt(20)) {
            case 0:
                a = near(0, 5); b = near(1, 9999); c = near(1, 9999);
                due("setPrice(" + a + ", " + b + ", " + c + ")", shop.setPrice(a, b, c), plain.setPrice(a, b, c));
                break;
            case 1:
                a = near(0, 10); b = near(0, 90);
                due("setCut(" + a + ", " + b + ")", shop.setCut(a, b), plain.setCut(a, b));
                break;
            case 2:
                a = near(0, 500); b = near(0, 100);
                due("setMelting(" + a + ", " + b + ")", shop.setMelting(a, b), plain.setMelting(a, b));
                break;
            case 3: case 4: case 5: case 6:
                a = near(0, 5); b = grams(20000); c = near(0, 100); d = near(0, 5);
                due("deliver(" + a + ", " + b + ", " + c + ", " + d + ")",
                        shop.deliver(a, b, c, d), plain.deliver(a, b, c, d));
                break;
            case 7:
                a = near(0, 5); b = near(1, 5000);
                due("iceBox(" + a + ", " + b + ")", shop.iceBox(a, b), plain.iceBox(a, b));
                break;
            case 8:
                a = near(0, 4); b = near(1, 5000);
                due("iceTray(" + a + ", " + b + ")", shop.iceTray(a, b), plain.iceTray(a, b));
                break;
            case 9: case 10: case 11:
                a = maybeLot(); b = near(0, 4);
                due("toTray(" + a + ", " + b + ")", shop.toTray(a, b), plain.toTray(a, b));
                break;
            case 12: case 13:
                a = maybeLot(); b = near(0, 5);
                due("toBox(" + a + ", " + b + ")", shop.toBox(a, b), plain.toBox(a, b));
                break;
            case 14:
                a = maybeLot(); b = grams(19999); c = near(0, 5);
                due("divide(" + a + ", " + b + ", " + c + ")", shop.divide(a, b, c), plain.divide(a, b, c));
                break;
            case 15:
                a = maybeLot();
                due("throwAway(" + a + ")", shop.throwAway(a), plain.throwAway(a));
                break;
            case 16: case 17:
                a = near(0, 5); b = grams(20000); c = random.nextInt(3) == 0 ? near(0, 100) : 0; d = near(1, 9999);
                due("order(" + a + ", " + b + ", " + c + ", " + d + ")",
                        shop.order(a, b, c, d), plain.order(a, b, c, d));
                break;
            case 18:
                due("pass()", shop.pass(), plain.pass());
                break;
            default:
                if (random.nextInt(3) == 0) {
                    due("close()", shop.close(), plain.close());
                } else {
                    due("pass()", shop.pass(), plain.pass());
                }
        }
    }

    private void ask() {
        int a;
        int b;
        switch (random.nextInt(6)) {
            case 0:
                a = near(0, 10);
                due("count(" + a + ")", shop.count(a), plain.count(a));
                break;
            case 1:
                a = maybeLot(); b = near(0, 6);
                due("lot(" + a + ", " + b + ")", shop.lot(a, b), plain.lot(a, b));
                break;
            case 2:
                a = near(0, 5); b = near(0, 3);
                due("box(" + a + ", " + b + ")", shop.box(a, b), plain.box(a, b));
                break;
            case 3:
                a = near(0, 4); b = near(0, 1);
                due("tray(" + a + ", " + b + ")", shop.tray(a, b), plain.tray(a, b));
                break;
            case 4:
                a = near(0, 5); b = near(0, 3);
                due("kind(" + a + ", " + b + ")", shop.kind(a, b), plain.kind(a, b));
                break;
            default:
                a = near(0, 10);
                due("cut(" + a + ")", shop.cut(a), plain.cut(a));
        }
    }

    private void forecast() {
        int a;
        int b;
        switch (random.nextInt(5)) {
            case 0:
                a = maybeLot(); b = random.nextBoolean() ? near(0, 100) : near(0, 12);
                due("freshAfter(" + a + ", " + b + ")", shop.freshAfter(a, b), plain.freshAfter(a, b));
                break;
            case 1:
                a = maybeLot();
                due("hoursLeft(" + a + ")", shop.hoursLeft(a), plain.hoursLeft(a));
                break;
            case 2:
                a = maybeLot();
                due("bestHour(" + a + ")", shop.bestHour(a), plain.bestHour(a));
                break;
            case 3:
                a = near(0, 10);
                due("ifClosed(" + a + ")", shop.ifClosed(a), plain.ifClosed(a));
                break;
            default:
                due("worth()", shop.worth(), plain.worth());
        }
    }

    private void typeText() {
        StringBuilder text = new StringBuilder();
        int items = 1 + random.nextInt(6);
        for (int i = 0; i < items; i++) {
            text.append(i == 0 ? "" : ";").append(near(0, 5)).append(':').append(grams(20000));
            text.append('/').append(near(0, 100)).append('@').append(near(0, 5));
        }
        if (random.nextInt(3) == 0) {
            text.setCharAt(random.nextInt(text.length()), SIGNS.charAt(random.nextInt(SIGNS.length())));
        }
        if (random.nextInt(4) == 0) {
            text.setLength(random.nextInt(text.length() + 1));
        }
        for (int i = 0; i < text.length() && calls < CALLS - 10; i++) {
            int code = random.nextInt(200) == 0 ? near(33, 126) : text.charAt(i);
            due("type(" + code + ")", shop.type(code), plain.type(code));
        }
        due("syntaxError() of " + text, shop.syntaxError(), plain.syntaxError());
        due("deliverAll()", shop.deliverAll(), plain.deliverAll());
        if (random.nextInt(4) > 0) {
            due("clearText()", shop.clearText(), plain.clearText());
        }
    }
}
