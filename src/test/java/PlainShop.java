import java.util.ArrayDeque;
import java.util.ArrayList;
import java.util.Collection;
import java.util.Comparator;
import java.util.Deque;
import java.util.List;
import java.util.TreeMap;
import java.util.regex.Matcher;
import java.util.regex.Pattern;

/**
 * The document once more, written for likeness to its words and with the whole Java library,
 * so that ModelTest can compare long runs of calls. It shares no code with FishCounter.
 */
final class PlainShop {
    private static final String NUMBER_TO_20000 = "(?:20000|1[0-9]{4}|[1-9][0-9]{0,3})";
    private static final String NUMBER_TO_100 = "(?:100|[1-9][0-9]|[0-9])";
    private static final String ITEM = "([0-5]):(" + NUMBER_TO_20000 + ")/(" + NUMBER_TO_100 + ")@([0-5])";
    private static final Pattern ONE = Pattern.compile(ITEM);
    private static final Pattern ALL = Pattern.compile(ITEM + "(?:;" + ITEM + ")*");

    private record Fish(int number, int kind, int grams, int fresh, boolean tray, int place) {
        Fish weighing(int newGrams) {
            return new Fish(number, kind, newGrams, fresh, tray, place);
        }

        Fish asFreshAs(int newFresh) {
            return new Fish(number, kind, grams, newFresh, tray, place);
        }

        Fish at(boolean newTray, int newPlace) {
            return new Fish(number, kind, grams, fresh, newTray, newPlace);
        }
    }

    private static final class State {
        TreeMap<Integer, Fish> fish = new TreeMap<>();
        int[] price = {1000, 1200, 1400, 1600, 1800, 2000};
        int[] cost = {400, 500, 600, 700, 800, 900};
        int[] cut = new int[11];
        int[] boxIce = new int[6];
        int[] trayIce = new int[5];
        long[] count = {0, 0, 0, 0, 0, 0, 0, 0, 0, 100, 30};
        int next = 1;

        State copy() {
            State copy = new State();
            copy.fish = new TreeMap<>(fish);
            copy.price = price.clone();
            copy.cost = cost.clone();
            copy.cut = cut.clone();
            copy.boxIce = boxIce.clone();
            copy.trayIce = trayIce.clone();
            copy.count = count.clone();
            copy.next = next;
            return copy;
        }

        int day() {
            return (int) count[0];
        }

        int hour() {
            return (int) count[1];
        }

        int limit() {
            return (int) count[10];
        }

        List<Fish> in(boolean tray, int place) {
            return fish.values().stream().filter(f -> f.tray() == tray && f.place() == place).toList();
        }

        int kilo(Fish f, int fresh, int hour) {
            int p = price[f.kind()] * (50 + fresh / 2) / 100;
            return p * (100 - cut[hour]) / 100;
        }

        int kilo(Fish f) {
            return kilo(f, f.fresh(), hour());
        }

        void put(Fish f) {
            fish.put(f.number(), f);
        }

        int discard(Fish f) {
            fish.remove(f.number());
            count[6] += f.grams();
            return f.grams();
        }

        int buy(int kind, int grams, int fresh, int box) {
            count[4] += grams;
            count[7] += grams * cost[kind] / 1000;
            put(new Fish(next, kind, grams, fresh, false, box));
            return next++;
        }

        void hourPasses() {
            for (Fish f : new ArrayList<>(fish.values())) {
                boolean ice = (f.tray() ? trayIce : boxIce)[f.place()] > 0;
                int loss = f.tray() ? (ice ? 2 : 9) : (ice ? 1 : 6);
                put(f.asFreshAs(Math.max(0, f.fresh() - loss)));
            }
            for (int i = 0; i < 6; i++) {
                boxIce[i] = (int) Math.max(0, boxIce[i] - count[9]);
            }
            for (int i = 0; i < 5; i++) {
                trayIce[i] = (int) Math.max(0, trayIce[i] - 2 * count[9]);
            }
            count[1]++;
        }

        int dayEnds() {
            int away = 0;
            for (Fish f : new ArrayList<>(fish.values())) {
                if (f.fresh() < limit()) {
                    away += discard(f);
                }
            }
            for (int tray = 0; tray < 5; tray++) {
                trayIce[tray] = 0;
                for (Fish f : in(true, tray)) {
                    int best = -1;
                    for (int box = 5; box >= 0; box--) {
                        if (in(false, box).size() < 3 && (best < 0 || boxIce[box] >= boxIce[best])) {
                            best = box;
                        }
                    }
                    if (best < 0) {
                        away += discard(f);
                    } else {
                        put(f.at(false, best));
                    }
                }
            }
            count[0]++;
            count[1] = 0;
            return away;
        }
    }

    private State now = new State();
    private final Deque<State> saved = new ArrayDeque<>();
    private String text = "";

    private void save() {
        saved.addLast(now.copy());
        if (saved.size() > 6) {
            saved.removeFirst();
        }
    }

    private static boolean out(int value, int least, int most) {
        return value < least || value > most;
    }

    int setPrice(int kind, int price, int cost) {
        if (out(kind, 0, 5)) return -1;
        if (out(price, 1, 9999) || out(cost, 1, 9999)) return -2;
        save();
        int previous = now.price[kind];
        now.price[kind] = price;
        now.cost[kind] = cost;
        return previous;
    }

    int setCut(int hour, int percent) {
        if (out(hour, 0, 10)) return -1;
        if (out(percent, 0, 90)) return -2;
        save();
        int previous = now.cut[hour];
        now.cut[hour] = percent;
        return previous;
    }

    int setMelting(int melting, int limit) {
        if (out(melting, 0, 500) || out(limit, 0, 100)) return -2;
        save();
        int previous = now.limit();
        now.count[9] = melting;
        now.count[10] = limit;
        return previous;
    }

    int deliver(int kind, int grams, int fresh, int box) {
        if (out(kind, 0, 5) || out(box, 0, 5)) return -1;
        if (out(grams, 1, 20000) || out(fresh, 0, 100)) return -2;
        if (now.in(false, box).size() == 3) return -3;
        if (now.fish.size() == 16) return -4;
        save();
        return now.buy(kind, grams, fresh, box);
    }

    int iceBox(int box, int grams) {
        if (out(box, 0, 5)) return -1;
        if (out(grams, 1, 5000)) return -2;
        save();
        return now.boxIce[box] = Math.min(5000, now.boxIce[box] + grams);
    }

    int iceTray(int tray, int grams) {
        if (out(tray, 0, 4)) return -1;
        if (out(grams, 1, 5000)) return -2;
        save();
        return now.trayIce[tray] = Math.min(5000, now.trayIce[tray] + grams);
    }

    int toTray(int lot, int tray) {
        Fish f = now.fish.get(lot);
        if (f == null || out(tray, 0, 4)) return -1;
        if (!now.in(true, tray).isEmpty()) return -3;
        save();
        now.put(f.at(true, tray));
        return now.kilo(f);
    }

    int toBox(int lot, int box) {
        Fish f = now.fish.get(lot);
        if (f == null || out(box, 0, 5)) return -1;
        if (now.in(false, box).contains(f) || now.in(false, box).size() == 3) return -3;
        save();
        now.put(f.at(false, box));
        return now.in(false, box).size();
    }

    int divide(int lot, int grams, int box) {
        Fish f = now.fish.get(lot);
        if (f == null || out(box, 0, 5)) return -1;
        if (out(grams, 1, 19999)) return -2;
        if (grams >= f.grams() || now.in(false, box).size() == 3) return -3;
        if (now.fish.size() == 16) return -4;
        save();
        now.put(f.weighing(f.grams() - grams));
        now.put(new Fish(now.next, f.kind(), grams, f.fresh(), false, box));
        return now.next++;
    }

    int throwAway(int lot) {
        Fish f = now.fish.get(lot);
        if (f == null) return -1;
        save();
        return now.discard(f);
    }

    int order(int kind, int grams, int fresh, int price) {
        if (out(kind, 0, 5)) return -1;
        if (out(grams, 1, 20000) || out(fresh, 0, 100) || out(price, 1, 9999)) return -2;
        save();
        List<Fish> fitting = now.fish.values().stream()
                .filter(f -> f.tray() && f.kind() == kind && f.fresh() >= now.limit())
                .filter(f -> f.fresh() >= fresh && now.kilo(f) <= price)
                .sorted(Comparator.comparingInt(Fish::fresh).thenComparingInt(Fish::number)).toList();
        int sold = 0;
        for (Fish f : fitting) {
            int part = Math.min(grams - sold, f.grams());
            sold += part;
            now.count[5] += part;
            now.count[8] += part * now.kilo(f) / 1000;
            if (part == f.grams()) {
                now.fish.remove(f.number());
            } else {
                now.put(f.weighing(f.grams() - part));
            }
        }
        return sold;
    }

    int pass() {
        if (now.hour() == 10) return -3;
        save();
        now.hourPasses();
        return now.hour();
    }

    int close() {
        if (now.day() == 999) return -4;
        save();
        return now.dayEnds();
    }

    private static int grams(Collection<Fish> fish) {
        return fish.stream().mapToInt(Fish::grams).sum();
    }

    long count(int what) {
        if (out(what, 0, 10)) return -2;
        return what == 2 ? now.fish.size() : what == 3 ? grams(now.fish.values()) : now.count[what];
    }

    int lot(int lot, int what) {
        Fish f = now.fish.get(lot);
        if (f == null) return -1;
        if (out(what, 0, 6)) return -2;
        return new int[] {f.kind(), f.grams(), f.fresh(), f.tray() ? -6 : f.place(), f.tray() ? f.place() : -6,
            now.kilo(f), f.grams() * now.kilo(f) / 1000}[what];
    }

    int box(int box, int what) {
        if (out(box, 0, 5)) return -1;
        if (out(what, 0, 3)) return -2;
        List<Fish> in = now.in(false, box);
        return new int[] {now.boxIce[box], in.size(), grams(in), in.isEmpty() ? -6 : in.get(0).number()}[what];
    }

    int tray(int tray, int what) {
        if (out(tray, 0, 4)) return -1;
        if (out(what, 0, 1)) return -2;
        List<Fish> on = now.in(true, tray);
        return new int[] {now.trayIce[tray], on.isEmpty() ? -6 : on.get(0).number()}[what];
    }

    int kind(int kind, int what) {
        if (out(kind, 0, 5)) return -1;
        if (out(what, 0, 3)) return -2;
        List<Fish> of = now.fish.values().stream().filter(f -> f.kind() == kind).toList();
        int freshest = of.stream().min(Comparator.comparingInt((Fish f) -> -f.fresh())
                .thenComparingInt(Fish::number)).map(Fish::number).orElse(-6);
        return new int[] {now.price[kind], now.cost[kind], grams(of), freshest}[what];
    }

    int cut(int hour) {
        return out(hour, 0, 10) ? -1 : now.cut[hour];
    }

    int freshAfter(int lot, int hours) {
        if (!now.fish.containsKey(lot)) return -1;
        if (out(hours, 0, 100)) return -2;
        State later = now.copy();
        for (int i = 0; i < hours; i++) {
            later.hourPasses();
        }
        return later.fish.get(lot).fresh();
    }

    int hoursLeft(int lot) {
        if (!now.fish.containsKey(lot)) return -1;
        State later = now.copy();
        int left = -6;
        for (int hours = 0; hours <= 100; hours++) {
            if (later.fish.get(lot).fresh() >= now.limit()) {
                left = hours;
            }
            later.hourPasses();
        }
        return left;
    }

    int bestHour(int lot) {
        Fish f = now.fish.get(lot);
        if (f == null) return -1;
        State later = now.copy();
        TreeMap<Integer, Integer> hourOfMoney = new TreeMap<>();
        for (int hour = now.hour(); hour <= 10; hour++) {
            int money = f.grams() * now.kilo(f, later.fish.get(lot).fresh(), hour) / 1000;
            hourOfMoney.putIfAbsent(money, hour);
            later.hourPasses();
        }
        return hourOfMoney.lastEntry().getValue();
    }

    int ifClosed(int hours) {
        if (out(hours, 0, 10)) return -2;
        State later = now.copy();
        for (int i = 0; i < hours; i++) {
            if (later.hour() < 10) {
                later.hourPasses();
            }
        }
        return later.dayEnds();
    }

    long worth() {
        return now.fish.values().stream().filter(f -> f.fresh() >= now.limit())
                .mapToLong(f -> f.grams() * now.kilo(f) / 1000).sum();
    }

    int type(int code) {
        if (out(code, 33, 126)) return -2;
        if (text.length() == 80) return -4;
        text += (char) code;
        return text.length();
    }

    int clearText() {
        int previous = text.length();
        text = "";
        return previous;
    }

    int syntaxError() {
        for (int length = 1; length <= text.length(); length++) {
            Matcher matcher = ALL.matcher(text.substring(0, length));
            if (!matcher.matches() && !matcher.hitEnd()) {
                return length - 1;
            }
        }
        return ALL.matcher(text).matches() ? -6 : text.length();
    }

    int deliverAll() {
        if (!ALL.matcher(text).matches()) return -5;
        save();
        int taken = 0;
        for (String item : text.split(";")) {
            Matcher m = ONE.matcher(item);
            m.matches();
            int box = Integer.parseInt(m.group(4));
            if (now.in(false, box).size() == 3 || now.fish.size() == 16) {
                break;
            }
            now.buy(Integer.parseInt(m.group(1)), Integer.parseInt(m.group(2)), Integer.parseInt(m.group(3)), box);
            taken++;
        }
        text = "";
        return taken;
    }

    int undo() {
        if (saved.isEmpty()) return -3;
        now = saved.removeLast();
        return saved.size();
    }

    long digest() {
        List<Long> list = new ArrayList<>();
        for (int what = 0; what <= 10; what++) list.add(count(what));
        for (int lot : now.fish.keySet()) {
            list.add((long) lot);
            for (int what = 0; what <= 6; what++) list.add((long) lot(lot, what));
            list.add((long) hoursLeft(lot));
            list.add((long) bestHour(lot));
        }
        for (int box = 0; box < 6; box++) for (int what = 0; what <= 3; what++) list.add((long) box(box, what));
        for (int tray = 0; tray < 5; tray++) for (int what = 0; what <= 1; what++) list.add((long) tray(tray, what));
        for (int kind = 0; kind < 6; kind++) for (int what = 0; what <= 3; what++) list.add((long) kind(kind, what));
        for (int hour = 0; hour <= 10; hour++) list.add((long) cut(hour));
        list.add(worth());
        return list.stream().reduce(186L, (hash, value) -> 31 * hash + value);
    }
}
