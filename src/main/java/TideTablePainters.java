import java.util.NoSuchElementException;

/** A service that paints tide tables on boards at piers. */
public final class TideTablePainters {

    public static final int NONE = -1;
    public static final int BLUE = 0;
    public static final int RED = 1;
    public static final int BLANK = 0;
    public static final int READABLE = 1;
    public static final int BLOTTED = 2;
    public static final int FADED = 3;

    private static final int MAX_PIERS = 6;
    private static final int FISHERMEN = 6;
    private static final int MAX_TINS = 12;
    private static final int LAST_DAY = 99999;
    private static final int MAX_DAYS_PASSED = 60;
    private static final int MAX_CENTIMETRES = 999;
    private static final int MAX_RUNGS = 9;
    private static final int MAX_TIN_MILLILITRES = 999;
    private static final int MAX_LINES_PAINTED = 50;

    private static final int MINUTES_A_DAY = 1440;
    private static final int HIGH_TO_HIGH = 745;
    private static final int HIGH_TO_LOW = 372;
    private static final int LOW_TO_HIGH = HIGH_TO_HIGH - HIGH_TO_LOW;
    // Five waters never fit into one day: four steps between them are 1490 minutes.
    private static final int MAX_WATERS = 4;

    private static final int MOON_QUARTERS_A_DAY = 4;
    private static final int MOON_CYCLE = 118;
    private static final int SPRING_TO_SPRING = 59;
    private static final int SPRING_TO_NEAP = 29;

    private static final int MAX_MINUTES_LATE = 60;
    private static final int FIRST_TRUST = 5;
    private static final int LEAST_TRUST = 1;
    private static final int MOST_TRUST = 9;
    private static final int GOOD_DIFFERENCE = 5;
    private static final int BEARABLE_DIFFERENCE = 30;
    private static final int REPORT_LIFE = 10;

    private static final int MILLILITRES_A_LINE = 5;
    private static final int DRIPS_A_BLOT = 12;
    private static final int DAYS_TO_FADE = 7;

    private final Pier[] piers = new Pier[MAX_PIERS];
    private int piersAdded = 0;
    private final int[] trusts = new int[FISHERMEN];
    private final int[] orderedDays = new int[MAX_PIERS];
    private final Tins blueTins = new Tins();
    private final Tins redTins = new Tins();
    // Filled anew by each call that needs a table, so that no call makes objects for it.
    private final TideTable table = new TideTable();
    private int presentDay = 0;
    private int job = NONE;
    private int used = 0;
    private int dripped = 0;

    public TideTablePainters() {
        for (int i = 0; i < FISHERMEN; i++) {
            trusts[i] = FIRST_TRUST;
        }
        for (int i = 0; i < MAX_PIERS; i++) {
            orderedDays[i] = NONE;
        }
    }

    // ---- Piers, moon and days.

    public int addPier(int delay, int mean, int spring, int neap, int rungs)
            throws IllegalArgumentException, IllegalStateException {
        demandWithin(delay, 0, HIGH_TO_HIGH - 1);
        demandWithin(mean, 0, MAX_CENTIMETRES);
        demandWithin(spring, 0, MAX_CENTIMETRES);
        demandWithin(neap, 0, spring);
        demandWithin(rungs, 0, MAX_RUNGS);
        if (piersAdded >= MAX_PIERS) {
            throw new IllegalStateException("there are 6 piers");
        }
        int number = piersAdded;
        piers[number] = new Pier(delay, mean, spring, neap, rungs, trusts);
        piersAdded++;
        return number;
    }

    public int pierCount() {
        return piersAdded;
    }

    public int today() {
        return presentDay;
    }

    public int passDays(int days) throws IllegalArgumentException {
        demandWithin(days, 1, MAX_DAYS_PASSED);
        presentDay += days;
        for (int i = 0; i < piersAdded; i++) {
            piers[i].reports.growOlder(days);
            piers[i].board.fadeOldLines(presentDay);
        }
        return presentDay;
    }

    public int moonAge(int day) throws IllegalArgumentException {
        demandDay(day);
        return moonAgeOn(day);
    }

    public int rangeOf(int pier, int day) throws IndexOutOfBoundsException, IllegalArgumentException {
        Pier asked = pierNumbered(pier);
        demandDay(day);
        return asked.rangeOn(day);
    }

    // ---- Tide tables.

    public int waterCount(int pier, int day) throws IndexOutOfBoundsException, IllegalArgumentException {
        Pier asked = pierNumbered(pier);
        demandDay(day);
        table.fill(asked, day);
        return table.count;
    }

    public int waterMinute(int pier, int day, int water)
            throws IllegalArgumentException, IndexOutOfBoundsException {
        fillTableWithWater(pier, day, water);
        return table.minutes[water];
    }

    public int waterHeight(int pier, int day, int water)
            throws IllegalArgumentException, IndexOutOfBoundsException {
        fillTableWithWater(pier, day, water);
        return table.heights[water];
    }

    public boolean isHighWater(int pier, int day, int water)
            throws IllegalArgumentException, IndexOutOfBoundsException {
        fillTableWithWater(pier, day, water);
        return table.highs[water];
    }

    public int minutesToHighWater(int pier, int day, int minute)
            throws IndexOutOfBoundsException, IllegalArgumentException {
        Pier asked = pierNumbered(pier);
        demandDay(day);
        demandWithin(minute, 0, MINUTES_A_DAY - 1);
        return asked.minutesToHigh(day, minute);
    }

    // ---- Reports of fishermen.

    public int report(int fisherman, int pier, int minutes)
            throws IndexOutOfBoundsException, IllegalArgumentException {
        Reports reports = reportsFor(fisherman, pier);
        demandMinutesLate(minutes);
        reports.put(fisherman, minutes);
        return reports.correction();
    }

    public int observe(int pier, int minutes) throws IndexOutOfBoundsException, IllegalArgumentException {
        Pier observed = pierNumbered(pier);
        demandMinutesLate(minutes);
        return observed.reports.compareWith(minutes);
    }

    public int correctionOf(int pier) throws IndexOutOfBoundsException {
        return pierNumbered(pier).reports.correction();
    }

    public int trustOf(int fisherman) throws IndexOutOfBoundsException {
        demandFisherman(fisherman);
        return trusts[fisherman];
    }

    public int reportCount(int pier) throws IndexOutOfBoundsException {
        return pierNumbered(pier).reports.count;
    }

    public int reporterAt(int pier, int place) throws IndexOutOfBoundsException, NoSuchElementException {
        Reports reports = pierNumbered(pier).reports;
        if (place < 0 || place >= reports.count) {
            throw new NoSuchElementException("no such place");
        }
        return reports.fishermen[place];
    }

    public int reportedMinutes(int fisherman, int pier)
            throws IndexOutOfBoundsException, NoSuchElementException {
        Reports reports = reportsFor(fisherman, pier);
        return reports.minutes[placeOfReport(reports, fisherman)];
    }

    public int reportAge(int fisherman, int pier) throws IndexOutOfBoundsException, NoSuchElementException {
        Reports reports = reportsFor(fisherman, pier);
        return reports.ages[placeOfReport(reports, fisherman)];
    }

    // ---- Paint.

    public int deliverTin(int colour, int millilitres) throws IllegalArgumentException, IllegalStateException {
        Tins tins = tinsOf(colour);
        demandWithin(millilitres, 1, MAX_TIN_MILLILITRES);
        if (tins.count >= MAX_TINS) {
            throw new IllegalStateException("there are 12 tins of this colour");
        }
        tins.add(millilitres);
        return tins.count;
    }

    public int tinCount(int colour) throws IllegalArgumentException {
        return tinsOf(colour).count;
    }

    public int paintLeft(int colour) throws IllegalArgumentException {
        Tins tins = tinsOf(colour);
        return tins.inOldest(tins.count);
    }

    public int oldestTin(int colour) throws IllegalArgumentException, NoSuchElementException {
        Tins tins = tinsOf(colour);
        if (tins.count == 0) {
            throw new NoSuchElementException("no tin");
        }
        return tins.contents[0];
    }

    public int paintUsed() {
        return used;
    }

    public int paintDripped() {
        return dripped;
    }

    public int paintPoured() {
        return blueTins.poured + redTins.poured;
    }

    // ---- Orders and painting.

    public int order(int pier, int day)
            throws IndexOutOfBoundsException, IllegalArgumentException, IllegalStateException {
        demandPier(pier);
        demandDay(day);
        if (orderedDays[pier] != NONE) {
            throw new IllegalStateException("an order for the pier is waiting");
        }
        orderedDays[pier] = day;
        return ordersBefore(pier);
    }

    public int cancelOrder(int pier) throws IndexOutOfBoundsException, NoSuchElementException {
        demandPier(pier);
        int day = orderedDays[pier];
        if (day == NONE) {
            throw new NoSuchElementException("no order for the pier is waiting");
        }
        orderedDays[pier] = NONE;
        return day;
    }

    public int waitingOrders() {
        int waiting = 0;
        for (int i = 0; i < piersAdded; i++) {
            if (orderedDays[i] != NONE) {
                waiting++;
            }
        }
        return waiting;
    }

    public int waitingPier(int place) throws NoSuchElementException {
        int pier = pierOfOrder(place);
        if (pier == NONE) {
            throw new NoSuchElementException("no such place");
        }
        return pier;
    }

    public int jobPier() {
        return job;
    }

    public int linesToPaint() {
        return job == NONE ? 0 : piers[job].board.blankLines();
    }

    public int paint(int lines) throws IllegalArgumentException {
        demandWithin(lines, 1, MAX_LINES_PAINTED);
        int painted = 0;
        while (painted < lines && paintNextLine()) {
            painted++;
        }
        return painted;
    }

    public int giveUpJob() throws IllegalStateException {
        if (job == NONE) {
            throw new IllegalStateException("there is no job");
        }
        int blank = piers[job].board.blankLines();
        job = NONE;
        return blank;
    }

    public int touchUp(int pier)
            throws IndexOutOfBoundsException, NoSuchElementException, IllegalStateException {
        Board board = pierNumbered(pier).board;
        int line = board.firstSpoiltLine();
        if (line == NONE) {
            throw new NoSuchElementException("no line is blotted or faded");
        }
        if (!tinsForLine(board, line).take(MILLILITRES_A_LINE)) {
            throw new IllegalStateException("the paint cannot be taken");
        }
        used += MILLILITRES_A_LINE;
        board.makeReadable(line, presentDay);
        return line;
    }

    // ---- Boards.

    public int boardDay(int pier) throws IndexOutOfBoundsException {
        return pierNumbered(pier).board.day;
    }

    public int lineCount(int pier) throws IndexOutOfBoundsException {
        return pierNumbered(pier).board.waters.count;
    }

    public int lineState(int pier, int line) throws IndexOutOfBoundsException {
        return boardWithLine(pier, line).states[line];
    }

    public int lineMinute(int pier, int line) throws IndexOutOfBoundsException, NoSuchElementException {
        return boardWithPaintedLine(pier, line).waters.minutes[line];
    }

    public int lineHeight(int pier, int line) throws IndexOutOfBoundsException, NoSuchElementException {
        return boardWithPaintedLine(pier, line).waters.heights[line];
    }

    public int dripsOf(int pier) throws IndexOutOfBoundsException {
        return pierNumbered(pier).board.drips;
    }

    public int unreadableLines(int pier) throws IndexOutOfBoundsException {
        return pierNumbered(pier).board.unreadableMask();
    }

    public boolean isRight(int pier) throws IndexOutOfBoundsException {
        return showsThisDay(pierNumbered(pier));
    }

    public int rightBoards() {
        int mask = 0;
        for (int i = 0; i < piersAdded; i++) {
            if (showsThisDay(piers[i])) {
                mask |= 1 << i;
            }
        }
        return mask;
    }

    // ---- Tests of parameters.

    private static void demandWithin(int value, int least, int most) throws IllegalArgumentException {
        if (value < least || value > most) {
            throw new IllegalArgumentException("a parameter is out of range");
        }
    }

    private static void demandDay(int day) throws IllegalArgumentException {
        demandWithin(day, 0, LAST_DAY);
    }

    private static void demandMinutesLate(int minutes) throws IllegalArgumentException {
        demandWithin(minutes, -MAX_MINUTES_LATE, MAX_MINUTES_LATE);
    }

    private static void demandFisherman(int fisherman) throws IndexOutOfBoundsException {
        if (fisherman < 0 || fisherman >= FISHERMEN) {
            throw new IndexOutOfBoundsException("no such fisherman");
        }
    }

    private void demandPier(int pier) throws IndexOutOfBoundsException {
        if (pier < 0 || pier >= piersAdded) {
            throw new IndexOutOfBoundsException("no such pier");
        }
    }

    private Pier pierNumbered(int pier) throws IndexOutOfBoundsException {
        demandPier(pier);
        return piers[pier];
    }

    private Reports reportsFor(int fisherman, int pier) throws IndexOutOfBoundsException {
        demandFisherman(fisherman);
        return pierNumbered(pier).reports;
    }

    private static int placeOfReport(Reports reports, int fisherman) throws NoSuchElementException {
        int place = reports.placeOf(fisherman);
        if (place == NONE) {
            throw new NoSuchElementException("no such report");
        }
        return place;
    }

    private Tins tinsOf(int colour) throws IllegalArgumentException {
        demandWithin(colour, BLUE, RED);
        return colour == BLUE ? blueTins : redTins;
    }

    private Board boardWithLine(int pier, int line) throws IndexOutOfBoundsException {
        Board board = pierNumbered(pier).board;
        if (line < 0 || line >= board.waters.count) {
            throw new IndexOutOfBoundsException("no such line");
        }
        return board;
    }

    private Board boardWithPaintedLine(int pier, int line)
            throws IndexOutOfBoundsException, NoSuchElementException {
        Board board = boardWithLine(pier, line);
        if (board.states[line] == BLANK) {
            throw new NoSuchElementException("the line is blank");
        }
        return board;
    }

    // ---- Moon and tide tables.

    private static int moonAgeOn(int day) {
        return MOON_QUARTERS_A_DAY * day % MOON_CYCLE;
    }

    /** The day is looked at first, as the questions for one water list its exception first, unlike others. */
    private void fillTableWithWater(int pier, int day, int water)
            throws IllegalArgumentException, IndexOutOfBoundsException {
        demandDay(day);
        table.fill(pierNumbered(pier), day);
        if (water < 0 || water >= table.count) {
            throw new IndexOutOfBoundsException("no such water");
        }
    }

    private boolean showsThisDay(Pier pier) {
        Board board = pier.board;
        if (board.day != presentDay || board.unreadableMask() != 0) {
            return false;
        }
        table.fill(pier, presentDay);
        return board.waters.matches(table);
    }

    // ---- Orders and painting, the steps.

    private boolean comesBefore(int pier, int other) {
        if (orderedDays[pier] != orderedDays[other]) {
            return orderedDays[pier] < orderedDays[other];
        }
        if (piers[pier].rungs != piers[other].rungs) {
            return piers[pier].rungs > piers[other].rungs;
        }
        return pier < other;
    }

    private int ordersBefore(int pier) {
        int before = 0;
        for (int i = 0; i < piersAdded; i++) {
            if (orderedDays[i] != NONE && comesBefore(i, pier)) {
                before++;
            }
        }
        return before;
    }

    private int pierOfOrder(int place) {
        for (int i = 0; i < piersAdded; i++) {
            if (orderedDays[i] != NONE && ordersBefore(i) == place) {
                return i;
            }
        }
        return NONE;
    }

    private void beginFirstOrder() {
        int pier = pierOfOrder(0);
        if (pier != NONE) {
            piers[pier].board.begin(piers[pier], orderedDays[pier]);
            orderedDays[pier] = NONE;
            job = pier;
        }
    }

    /** Answers false if there is nothing to paint or the paint cannot be taken; a job that it began stays. */
    private boolean paintNextLine() {
        if (job == NONE) {
            beginFirstOrder();
        }
        if (job == NONE) {
            return false;
        }
        Pier pier = piers[job];
        int line = pier.board.blankLines() - 1;
        if (line < 0 || !tinsForLine(pier.board, line).take(MILLILITRES_A_LINE + pier.rungs)) {
            return false;
        }
        used += MILLILITRES_A_LINE;
        dripped += pier.rungs;
        pier.board.makeReadable(line, presentDay);
        pier.board.drip(pier.rungs);
        if (line == 0) {
            job = NONE;
        }
        return true;
    }

    private Tins tinsForLine(Board board, int line) {
        return board.waters.highs[line] ? blueTins : redTins;
    }

    /** A pier with what belongs to it: its tide, the reports for it and its board. */
    private static final class Pier {
        private final int delay;
        private final int mean;
        private final int spring;
        private final int neap;
        private final int rungs;
        private final Reports reports;
        private final Board board = new Board();

        Pier(int delay, int mean, int spring, int neap, int rungs, int[] trusts) {
            this.delay = delay;
            this.mean = mean;
            this.spring = spring;
            this.neap = neap;
            this.rungs = rungs;
            this.reports = new Reports(trusts);
        }

        int rangeOn(int day) {
            int sinceSpring = moonAgeOn(day) % SPRING_TO_SPRING;
            int distance = Math.min(sinceSpring, SPRING_TO_SPRING - sinceSpring);
            return spring - (spring - neap) * distance / SPRING_TO_NEAP;
        }

        int minutesToHigh(int day, int minute) {
            int now = MINUTES_A_DAY * day + minute;
            return Math.floorMod(delay + reports.correction() - now, HIGH_TO_HIGH);
        }
    }

    /** The waters of a pier on a day. */
    private static final class TideTable {
        private final int[] minutes = new int[MAX_WATERS];
        private final int[] heights = new int[MAX_WATERS];
        private final boolean[] highs = new boolean[MAX_WATERS];
        private int count = 0;

        void fill(Pier pier, int day) {
            int half = pier.rangeOn(day) / 2;
            int minute = pier.minutesToHigh(day, 0);
            boolean high = true;
            if (minute >= LOW_TO_HIGH) {
                minute -= LOW_TO_HIGH;
                high = false;
            }
            count = 0;
            while (count < MAX_WATERS && minute < MINUTES_A_DAY) {
                minutes[count] = minute;
                heights[count] = high ? pier.mean + half : pier.mean - half;
                highs[count] = high;
                count++;
                minute += high ? HIGH_TO_LOW : LOW_TO_HIGH;
                high = !high;
            }
        }

        boolean matches(TideTable other) {
            if (count != other.count) {
                return false;
            }
            for (int i = 0; i < count; i++) {
                if (minutes[i] != other.minutes[i] || heights[i] != other.heights[i]
                        || highs[i] != other.highs[i]) {
                    return false;
                }
            }
            return true;
        }
    }

    /** The reports for one pier, at most one of each fisherman, in the order of their first making. */
    private static final class Reports {
        private final int[] fishermen = new int[FISHERMEN];
        private final int[] minutes = new int[FISHERMEN];
        private final int[] ages = new int[FISHERMEN];
        private int count = 0;
        // Shared with all other piers: a fisherman has one trust, wherever he reports.
        private final int[] trusts;

        Reports(int[] trusts) {
            this.trusts = trusts;
        }

        int placeOf(int fisherman) {
            for (int i = 0; i < count; i++) {
                if (fishermen[i] == fisherman) {
                    return i;
                }
            }
            return NONE;
        }

        void put(int fisherman, int minutesLate) {
            int place = placeOf(fisherman);
            if (place == NONE && count < FISHERMEN) {
                place = count;
                count++;
            }
            if (place != NONE) {
                fishermen[place] = fisherman;
                minutes[place] = minutesLate;
                ages[place] = 0;
            }
        }

        void removeAt(int place) {
            for (int i = place; i < count - 1; i++) {
                fishermen[i] = fishermen[i + 1];
                minutes[i] = minutes[i + 1];
                ages[i] = ages[i + 1];
            }
            count--;
        }

        int correction() {
            int weighted = 0;
            int weights = 0;
            for (int i = 0; i < count; i++) {
                int trust = trusts[fishermen[i]];
                weighted += minutes[i] * trust;
                weights += trust;
            }
            return weights == 0 ? 0 : weighted / weights;
        }

        /** Answers the number of reports that were removed for being too far off. */
        int compareWith(int minutesLate) {
            int removed = 0;
            // From the last to the first, so that a removal moves none that is still to come.
            for (int i = count - 1; i >= 0; i--) {
                int difference = Math.abs(minutes[i] - minutesLate);
                judge(fishermen[i], difference);
                if (difference > BEARABLE_DIFFERENCE) {
                    removeAt(i);
                    removed++;
                }
            }
            return removed;
        }

        void judge(int fisherman, int difference) {
            if (difference <= GOOD_DIFFERENCE) {
                trusts[fisherman] = Math.min(trusts[fisherman] + 1, MOST_TRUST);
            } else {
                trusts[fisherman] = Math.max(trusts[fisherman] - 1, LEAST_TRUST);
            }
        }

        void growOlder(int days) {
            for (int i = count - 1; i >= 0; i--) {
                ages[i] += days;
                if (ages[i] >= REPORT_LIFE) {
                    removeAt(i);
                }
            }
        }
    }

    /** The tins of one colour, the oldest first. */
    private static final class Tins {
        private final int[] contents = new int[MAX_TINS];
        private int count = 0;
        private int poured = 0;

        void add(int millilitres) {
            if (count < MAX_TINS) {
                contents[count] = millilitres;
                count++;
            }
        }

        /** The millilitres in the oldest tins, so many of them; there must be as many. */
        int inOldest(int tins) {
            int sum = 0;
            for (int i = 0; i < tins; i++) {
                sum += contents[i];
            }
            return sum;
        }

        /** Answers false, and changes nothing, if no tin contains the amount. */
        boolean take(int amount) {
            int tin = oldestWith(amount);
            if (tin == NONE) {
                return false;
            }
            poured += inOldest(tin);
            contents[tin] -= amount;
            removeOldest(contents[tin] == 0 ? tin + 1 : tin);
            return true;
        }

        int oldestWith(int amount) {
            for (int i = 0; i < count; i++) {
                if (contents[i] >= amount) {
                    return i;
                }
            }
            return NONE;
        }

        void removeOldest(int tins) {
            for (int i = tins; i < count; i++) {
                contents[i - tins] = contents[i];
            }
            count -= tins;
        }
    }

    /** The board of a pier; its lines are the waters that its table had when the job began. */
    private static final class Board {
        private final TideTable waters = new TideTable();
        private final int[] states = new int[MAX_WATERS];
        private final int[] paintedOn = new int[MAX_WATERS];
        private int day = NONE;
        private int drips = 0;

        void begin(Pier pier, int orderedDay) {
            waters.fill(pier, orderedDay);
            for (int i = 0; i < MAX_WATERS; i++) {
                states[i] = BLANK;
            }
            day = orderedDay;
            drips = 0;
        }

        void makeReadable(int line, int presentDay) {
            states[line] = READABLE;
            paintedOn[line] = presentDay;
        }

        void drip(int rungs) {
            drips += rungs;
            if (drips >= DRIPS_A_BLOT) {
                drips -= DRIPS_A_BLOT;
                blotLastReadable();
            }
        }

        void blotLastReadable() {
            for (int i = waters.count - 1; i >= 0; i--) {
                if (states[i] == READABLE) {
                    states[i] = BLOTTED;
                    return;
                }
            }
        }

        void fadeOldLines(int presentDay) {
            for (int i = 0; i < waters.count; i++) {
                if (states[i] == READABLE && presentDay - paintedOn[i] >= DAYS_TO_FADE) {
                    states[i] = FADED;
                }
            }
        }

        /** These are the lines 0 to this number - 1, as lines are painted from the last one up. */
        int blankLines() {
            int blank = 0;
            for (int i = 0; i < waters.count; i++) {
                if (states[i] == BLANK) {
                    blank++;
                }
            }
            return blank;
        }

        int firstSpoiltLine() {
            for (int i = 0; i < waters.count; i++) {
                if (states[i] == BLOTTED || states[i] == FADED) {
                    return i;
                }
            }
            return NONE;
        }

        int unreadableMask() {
            int mask = 0;
            for (int i = 0; i < waters.count; i++) {
                if (states[i] != READABLE) {
                    mask |= 1 << i;
                }
            }
            return mask;
        }
    }
}
