import java.util.ArrayList;
import java.util.Comparator;
import java.util.List;
import java.util.NoSuchElementException;

/**
 * The document once more, as slowly and plainly as it is told there: days pass one by one, waters are
 * searched among all k, orders are sorted. The random runs compare the program with it.
 */
final class Model {
    private static final class Water {
        int minute;
        int height;
        boolean high;
    }

    private static final class Line {
        Water water;
        int state = 0;
        int painted = 0;
    }

    private static final class Report {
        int fisherman;
        int minutes;
        int age;
    }

    private static final class Order {
        int pier;
        int day;
    }

    private static final class Pier {
        int delay;
        int mean;
        int spring;
        int neap;
        int rungs;
        List<Report> reports = new ArrayList<>();
        List<Line> board = new ArrayList<>();
        int boardDay = -1;
        int drips = 0;
    }

    private final List<Pier> piers = new ArrayList<>();
    private final int[] trust = {5, 5, 5, 5, 5, 5};
    private final List<List<Integer>> tins = List.of(new ArrayList<>(), new ArrayList<>());
    private final List<Order> orders = new ArrayList<>();
    private int day = 0;
    private int job = -1;
    private int used = 0;
    private int dripped = 0;
    private int poured = 0;

    private static void argument(boolean good) {
        if (!good) {
            throw new IllegalArgumentException();
        }
    }

    private static void index(boolean good) {
        if (!good) {
            throw new IndexOutOfBoundsException();
        }
    }

    private static void element(boolean good) {
        if (!good) {
            throw new NoSuchElementException();
        }
    }

    private static void state(boolean good) {
        if (!good) {
            throw new IllegalStateException();
        }
    }

    private static boolean in(int value, int least, int most) {
        return least <= value && value <= most;
    }

    private Pier pier(int number) {
        index(in(number, 0, piers.size() - 1));
        return piers.get(number);
    }

    int addPier(int delay, int mean, int spring, int neap, int rungs) {
        argument(in(delay, 0, 744) && in(mean, 0, 999) && in(spring, 0, 999) && in(neap, 0, spring)
                && in(rungs, 0, 9));
        state(piers.size() < 6);
        Pier p = new Pier();
        p.delay = delay;
        p.mean = mean;
        p.spring = spring;
        p.neap = neap;
        p.rungs = rungs;
        piers.add(p);
        return piers.size() - 1;
    }

    int pierCount() {
        return piers.size();
    }

    int today() {
        return day;
    }

    int passDays(int days) {
        argument(in(days, 1, 60));
        for (int i = 0; i < days; i++) {
            day++;
            for (Pier p : piers) {
                for (Report r : p.reports) {
                    r.age++;
                }
                p.reports.removeIf(r -> r.age == 10);
                for (Line l : p.board) {
                    if (l.state == 1 && l.painted == day - 7) {
                        l.state = 3;
                    }
                }
            }
        }
        return day;
    }

    int moonAge(int d) {
        argument(in(d, 0, 99999));
        return (4 * d) % 118;
    }

    private int range(Pier p, int d) {
        int r = moonAge(d) % 59;
        int distance = r == 0 ? 0 : Math.min(r, 59 - r);
        return (int) Math.floor(p.spring - Math.floor((p.spring - p.neap) * distance / 29.0 + 1e-9));
    }

    int rangeOf(int pier, int d) {
        Pier p = pier(pier);
        argument(in(d, 0, 99999));
        return range(p, d);
    }

    private int correction(Pier p) {
        int products = 0;
        int sum = 0;
        for (Report r : p.reports) {
            products += r.minutes * trust[r.fisherman];
            sum += trust[r.fisherman];
        }
        if (sum == 0) {
            return 0;
        }
        int quotient = Math.abs(products) / sum;
        return products < 0 ? -quotient : quotient;
    }

    private List<Water> waters(Pier p, int d) {
        List<Water> all = new ArrayList<>();
        int from = 1440 * d;
        for (int k = from / 745 - 4; k <= from / 745 + 4; k++) {
            for (int low = 0; low < 2; low++) {
                int minute = p.delay + 745 * k + 372 * low + correction(p) - from;
                if (in(minute, 0, 1439)) {
                    Water w = new Water();
                    w.minute = minute;
                    w.high = low == 0;
                    w.height = p.mean + (w.high ? range(p, d) / 2 : -(range(p, d) / 2));
                    all.add(w);
                }
            }
        }
        all.sort(Comparator.comparingInt(w -> w.minute));
        return all;
    }

    int waterCount(int pier, int d) {
        Pier p = pier(pier);
        argument(in(d, 0, 99999));
        return waters(p, d).size();
    }

    private Water water(int pier, int d, int water) {
        argument(in(d, 0, 99999));
        List<Water> all = waters(pier(pier), d);
        index(in(water, 0, all.size() - 1));
        return all.get(water);
    }

    int waterMinute(int pier, int d, int water) {
        return water(pier, d, water).minute;
    }

    int waterHeight(int pier, int d, int water) {
        return water(pier, d, water).height;
    }

    boolean isHighWater(int pier, int d, int water) {
        return water(pier, d, water).high;
    }

    int minutesToHighWater(int pier, int d, int minute) {
        Pier p = pier(pier);
        argument(in(d, 0, 99999) && in(minute, 0, 1439));
        int now = 1440 * d + minute;
        int high = p.delay + correction(p) + 745 * (now / 745 - 4);
        while (high < now) {
            high += 745;
        }
        return high - now;
    }

    private Report find(Pier p, int fisherman) {
        for (Report r : p.reports) {
            if (r.fisherman == fisherman) {
                return r;
            }
        }
        return null;
    }

    int report(int fisherman, int pier, int minutes) {
        index(in(fisherman, 0, 5));
        Pier p = pier(pier);
        argument(in(minutes, -60, 60));
        Report r = find(p, fisherman);
        if (r == null) {
            r = new Report();
            r.fisherman = fisherman;
            p.reports.add(r);
        }
        r.minutes = minutes;
        r.age = 0;
        return correction(p);
    }

    int observe(int pier, int minutes) {
        Pier p = pier(pier);
        argument(in(minutes, -60, 60));
        for (Report r : p.reports) {
            boolean good = Math.abs(r.minutes - minutes) <= 5;
            trust[r.fisherman] = Math.min(9, Math.max(1, trust[r.fisherman] + (good ? 1 : -1)));
        }
        int before = p.reports.size();
        p.reports.removeIf(r -> Math.abs(r.minutes - minutes) > 30);
        return before - p.reports.size();
    }

    int correctionOf(int pier) {
        return correction(pier(pier));
    }

    int trustOf(int fisherman) {
        index(in(fisherman, 0, 5));
        return trust[fisherman];
    }

    int reportCount(int pier) {
        return pier(pier).reports.size();
    }

    int reporterAt(int pier, int place) {
        Pier p = pier(pier);
        element(in(place, 0, p.reports.size() - 1));
        return p.reports.get(place).fisherman;
    }

    private Report made(int fisherman, int pier) {
        index(in(fisherman, 0, 5));
        Report r = find(pier(pier), fisherman);
        element(r != null);
        return r;
    }

    int reportedMinutes(int fisherman, int pier) {
        return made(fisherman, pier).minutes;
    }

    int reportAge(int fisherman, int pier) {
        return made(fisherman, pier).age;
    }

    private List<Integer> tins(int colour) {
        argument(colour == 0 || colour == 1);
        return tins.get(colour);
    }

    int deliverTin(int colour, int millilitres) {
        argument(in(millilitres, 1, 999));
        state(tins(colour).size() < 12);
        tins(colour).add(millilitres);
        return tins(colour).size();
    }

    int tinCount(int colour) {
        return tins(colour).size();
    }

    int paintLeft(int colour) {
        int sum = 0;
        for (int tin : tins(colour)) {
            sum += tin;
        }
        return sum;
    }

    int oldestTin(int colour) {
        element(!tins(colour).isEmpty());
        return tins(colour).get(0);
    }

    private boolean take(boolean high, int amount) {
        List<Integer> mine = tins.get(high ? 0 : 1);
        if (mine.stream().noneMatch(tin -> tin >= amount)) {
            return false;
        }
        while (mine.get(0) < amount) {
            poured += mine.remove(0);
        }
        mine.set(0, mine.get(0) - amount);
        if (mine.get(0) == 0) {
            mine.remove(0);
        }
        return true;
    }

    int paintUsed() {
        return used;
    }

    int paintDripped() {
        return dripped;
    }

    int paintPoured() {
        return poured;
    }

    private Order waiting(int pier) {
        for (Order o : orders) {
            if (o.pier == pier) {
                return o;
            }
        }
        return null;
    }

    int order(int pier, int d) {
        pier(pier);
        argument(in(d, 0, 99999));
        state(waiting(pier) == null);
        Order o = new Order();
        o.pier = pier;
        o.day = d;
        orders.add(o);
        orders.sort(Comparator.<Order>comparingInt(w -> w.day)
                .thenComparingInt(w -> -piers.get(w.pier).rungs).thenComparingInt(w -> w.pier));
        return orders.indexOf(o);
    }

    int cancelOrder(int pier) {
        pier(pier);
        Order o = waiting(pier);
        element(o != null);
        orders.remove(o);
        return o.day;
    }

    int waitingOrders() {
        return orders.size();
    }

    int waitingPier(int place) {
        element(in(place, 0, orders.size() - 1));
        return orders.get(place).pier;
    }

    int jobPier() {
        return job;
    }

    int linesToPaint() {
        return job < 0 ? 0 : (int) piers.get(job).board.stream().filter(l -> l.state == 0).count();
    }

    int paint(int lines) {
        argument(in(lines, 1, 50));
        for (int painted = 0; painted < lines; painted++) {
            if (job < 0 && orders.isEmpty()) {
                return painted;
            }
            if (job < 0) {
                begin(orders.remove(0));
            }
            if (!paintLine(piers.get(job))) {
                return painted;
            }
        }
        return lines;
    }

    private void begin(Order o) {
        job = o.pier;
        Pier p = piers.get(job);
        p.boardDay = o.day;
        p.drips = 0;
        p.board = new ArrayList<>();
        for (Water w : waters(p, o.day)) {
            Line l = new Line();
            l.water = w;
            p.board.add(l);
        }
    }

    private boolean paintLine(Pier p) {
        int at = linesToPaint() - 1;
        Line l = p.board.get(at);
        if (!take(l.water.high, 5 + p.rungs)) {
            return false;
        }
        used += 5;
        dripped += p.rungs;
        l.state = 1;
        l.painted = day;
        p.drips += p.rungs;
        if (p.drips >= 12) {
            p.drips -= 12;
            Line last = null;
            for (Line other : p.board) {
                last = other.state == 1 ? other : last;
            }
            last.state = 2;
        }
        if (at == 0) {
            job = -1;
        }
        return true;
    }

    int giveUpJob() {
        state(job >= 0);
        int blank = linesToPaint();
        job = -1;
        return blank;
    }

    int touchUp(int pier) {
        Pier p = pier(pier);
        for (int i = 0; i < p.board.size(); i++) {
            Line l = p.board.get(i);
            if (l.state >= 2) {
                state(take(l.water.high, 5));
                used += 5;
                l.state = 1;
                l.painted = day;
                return i;
            }
        }
        throw new NoSuchElementException();
    }

    int boardDay(int pier) {
        return pier(pier).boardDay;
    }

    int lineCount(int pier) {
        return pier(pier).board.size();
    }

    private Line line(int pier, int line) {
        Pier p = pier(pier);
        index(in(line, 0, p.board.size() - 1));
        return p.board.get(line);
    }

    int lineState(int pier, int line) {
        return line(pier, line).state;
    }

    int lineMinute(int pier, int line) {
        element(line(pier, line).state != 0);
        return line(pier, line).water.minute;
    }

    int lineHeight(int pier, int line) {
        element(line(pier, line).state != 0);
        return line(pier, line).water.height;
    }

    int dripsOf(int pier) {
        return pier(pier).drips;
    }

    int unreadableLines(int pier) {
        int mask = 0;
        for (int i = 0; i < pier(pier).board.size(); i++) {
            mask += pier(pier).board.get(i).state == 1 ? 0 : 1 << i;
        }
        return mask;
    }

    boolean isRight(int pier) {
        Pier p = pier(pier);
        if (p.boardDay != day || unreadableLines(pier) != 0) {
            return false;
        }
        List<Water> due = waters(p, day);
        if (due.size() != p.board.size()) {
            return false;
        }
        for (int i = 0; i < due.size(); i++) {
            Water a = due.get(i);
            Water b = p.board.get(i).water;
            if (a.minute != b.minute || a.height != b.height || a.high != b.high) {
                return false;
            }
        }
        return true;
    }

    int rightBoards() {
        int mask = 0;
        for (int i = 0; i < piers.size(); i++) {
            mask += isRight(i) ? 1 << i : 0;
        }
        return mask;
    }
}
