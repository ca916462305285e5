/** The sentences of the document that name a boundary case of the moon, the piers and the tide tables. */
final class TideEdgeTest {
    private TideEdgeTest() {
    }

    static void run() {
        ageOnEachDay();
        ageWrapsAround();
        distanceFromTheSpringTide();
        rangeIsRoundedDown();
        rangesThatDoNotDiffer();
        pierNumbers();
        daysPassToTheEnd();
        highWaterAtTheEdgesOfTheDay();
        lowWaterAtTheEdgesOfTheDay();
        negativeWaters();
        correctionsOverMidnight();
        halfTheRangeIsRoundedDown();
        greatestAndLeastHeight();
        nextHighWaterAtItsEdges();
        nextHighWaterOnAnotherDay();
        tablesOfAllDelays();
    }

    private static TideTablePainters withDelay(int delay) {
        TideTablePainters x = new TideTablePainters();
        x.addPier(delay, 0, 0, 0, 0);
        return x;
    }

    private static TideTablePainters withRange(int spring, int neap) {
        TideTablePainters x = new TideTablePainters();
        x.addPier(0, 0, spring, neap, 0);
        return x;
    }

    /** "The age of the moon on day d is (4 * d) modulo 118": counted up day by day. */
    private static void ageOnEachDay() {
        TideTablePainters x = new TideTablePainters();
        int age = 0;
        int wrong = 0;
        for (int day = 0; day < 100000; day++) {
            if (day % 500 == 0) {
                x = new TideTablePainters();
            }
            wrong += x.moonAge(day) == age ? 0 : 1;
            age += 4;
            if (age >= 118) {
                age -= 118;
            }
        }
        Checks.same("P6 wrong ages of 100000", wrong, 0);
    }

    /** The wrap-around of the age: 116 is followed by 2, and after two turns 114 by 0. */
    private static void ageWrapsAround() {
        TideTablePainters x = new TideTablePainters();
        int[][] due = {{0, 0}, {29, 116}, {30, 2}, {58, 114}, {59, 0}, {60, 4}, {88, 116}, {89, 2}, {117, 114},
            {118, 0}, {99999, 94}};
        for (int[] d : due) {
            Checks.same("P6 day " + d[0], x.moonAge(d[0]), d[1]);
        }
    }

    /** "The smaller one of r and 59 - r, but 0 if r is 0; it is 0 to 29": a centimetre for each step of it. */
    private static void distanceFromTheSpringTide() {
        TideTablePainters x = withRange(29, 0);
        int[][] dayAgeDistance = {
            {0, 0, 0}, {59, 0, 0}, {118, 0, 0},
            {30, 2, 2}, {1, 4, 4}, {7, 28, 28},
            {37, 30, 29}, {8, 32, 27}, {44, 58, 1},
            {15, 60, 1}, {45, 62, 3}, {51, 86, 27}, {22, 88, 29},
            {52, 90, 28}, {29, 116, 2}, {58, 114, 4}};
        for (int[] d : dayAgeDistance) {
            Checks.same("P6 day " + d[0], x.moonAge(d[0]), d[1]);
            Checks.same("P7 distance on day " + d[0], 29 - x.rangeOf(0, d[0]), d[2]);
        }
    }

    /** "The quotient being rounded down": the quotient, not the range. */
    private static void rangeIsRoundedDown() {
        TideTablePainters one = withRange(1, 0);
        Checks.same("P7 28 / 29 is 0", one.rangeOf(0, 7), 1);
        Checks.same("P7 29 / 29 is 1", one.rangeOf(0, 22), 0);
        TideTablePainters most = withRange(999, 0);
        Checks.same("P7 999 * 1 / 29 is 34", most.rangeOf(0, 15), 965);
        Checks.same("P7 999 * 28 / 29 is 964", most.rangeOf(0, 7), 35);
        Checks.same("P7 999 at the spring tide", most.rangeOf(0, 0), 999);
        Checks.same("P7 0 at the neap tide", most.rangeOf(0, 22), 0);
        Checks.same("P7 0 at the other neap tide", most.rangeOf(0, 37), 0);
        TideTablePainters exact = withRange(58, 29);
        Checks.same("P7 a quotient without rest", exact.rangeOf(0, 7), 30);
    }

    /** "The neap range not greater than the spring range": it may be the same. */
    private static void rangesThatDoNotDiffer() {
        for (int range : new int[] {0, 1, 999}) {
            TideTablePainters x = withRange(range, range);
            for (int day : new int[] {0, 1, 7, 15, 22, 37, 44, 59, 99999}) {
                Checks.same("P7 spring is neap on day " + day, x.rangeOf(0, day), range);
            }
        }
    }

    /** "There are at most 6 piers, numbered from 0": none, each one up to six, and their numbers. */
    private static void pierNumbers() {
        TideTablePainters x = new TideTablePainters();
        Checks.same("P3 none", x.pierCount(), 0);
        for (int i = 0; i < 6; i++) {
            int next = i;
            Checks.fails("P7 not yet there", Checks.NO_INDEX, () -> x.rangeOf(next, 0));
            Checks.same("P2 its number", x.addPier(0, 0, 10 * i, 0, 9 - i), i);
            Checks.same("P3 so many", x.pierCount(), i + 1);
            Checks.same("P7 it is there", x.rangeOf(next, 0), 10 * i);
        }
        Checks.fails("P2 the seventh", Checks.ILLEGAL_STATE, () -> x.addPier(0, 0, 0, 0, 0));
        Checks.same("P3 six", x.pierCount(), 6);
        Checks.fails("P7 there is no pier 6", Checks.NO_INDEX, () -> x.rangeOf(6, 0));
    }

    /** "At most 512 calls": 60 days in each of them, which leads far behind the day of each order. */
    private static void daysPassToTheEnd() {
        TideTablePainters x = Scenes.piersAndPaint(1, 0);
        x.order(0, 0);
        x.paint(50);
        for (int i = 1; i <= 500; i++) {
            Checks.same("P5 sixty days", x.passDays(60), 60 * i);
        }
        Checks.same("P4 day", x.today(), 30000);
        Checks.same("P43 all faded", x.unreadableLines(0), 15);
        Checks.same("P45 none is right", x.rightBoards(), 0);
    }

    private static void table(String what, TideTablePainters x, int day, int... minutes) {
        Checks.same("P8 " + what, x.waterCount(0, day), minutes.length);
        for (int i = 0; i < minutes.length && i < x.waterCount(0, day); i++) {
            Checks.same("P9 " + what + " water " + i, x.waterMinute(0, day, i), minutes[i]);
        }
    }

    /** "Whose absolute minutes belong to the day", 0 to 1439, high waters: minutes 0, -1, 1439 and 1440. */
    private static void highWaterAtTheEdgesOfTheDay() {
        table("high at 0", withDelay(0), 0, 0, 372, 745, 1117);
        Checks.yes("P11 high at 0", withDelay(0).isHighWater(0, 0, 0));
        TideTablePainters before = withDelay(0);
        before.report(0, 0, -1);
        table("high at -1", before, 0, 371, 744, 1116);
        Checks.no("P11 the low one is the first", before.isHighWater(0, 0, 0));
        table("high at 1439", withDelay(694), 0, 321, 694, 1066, 1439);
        Checks.yes("P11 high at 1439", withDelay(694).isHighWater(0, 0, 3));
        table("high at 1440", withDelay(695), 0, 322, 695, 1067);
        table("high at 1440 is at 0 of the next day", withDelay(695), 1, 0, 372, 745, 1117);
        Checks.yes("P11 it is high there too", withDelay(695).isHighWater(0, 1, 0));
    }

    /** The same for low waters. */
    private static void lowWaterAtTheEdgesOfTheDay() {
        table("low at 0", withDelay(373), 0, 0, 373, 745, 1118);
        Checks.no("P11 low at 0", withDelay(373).isHighWater(0, 0, 0));
        table("low at -1", withDelay(372), 0, 372, 744, 1117);
        Checks.yes("P11 the high one is the first", withDelay(372).isHighWater(0, 0, 0));
        table("low at 1439", withDelay(322), 0, 322, 694, 1067, 1439);
        Checks.no("P11 low at 1439", withDelay(322).isHighWater(0, 0, 3));
        table("low at 1440", withDelay(323), 0, 323, 695, 1068);
        table("low at 1440 is at 0 of the next day", withDelay(323), 1, 0, 373, 745, 1118);
        Checks.no("P11 it is low there too", withDelay(323).isHighWater(0, 1, 0));
    }

    /** "For each integer k, also negative ones": those of k = -1 on day 0. */
    private static void negativeWaters() {
        table("low of k = -1", withDelay(744), 0, 371, 744, 1116);
        Checks.no("P11 low of k = -1", withDelay(744).isHighWater(0, 0, 0));
        TideTablePainters late = withDelay(744);
        late.report(0, 0, 60);
        table("high and low of k = -1", late, 0, 59, 431, 804, 1176);
        Checks.yes("P11 high of k = -1", late.isHighWater(0, 0, 0));
        TideTablePainters just = withDelay(744);
        just.report(0, 0, 1);
        table("high of k = -1 at 0", just, 0, 0, 372, 745, 1117);
        Checks.yes("P11 high of k = -1 at 0", just.isHighWater(0, 0, 0));
    }

    /** A correction of -60 to 60 moves waters from one day to the other. */
    private static void correctionsOverMidnight() {
        TideTablePainters x = withDelay(59);
        x.report(0, 0, -60);
        table("59 minus 60 is the day before", x, 0, 371, 744, 1116);
        x.report(0, 0, -59);
        table("59 minus 59 is minute 0", x, 0, 0, 372, 745, 1117);
        TideTablePainters y = withDelay(635);
        y.report(0, 0, 60);
        table("1380 plus 60 is the next day", y, 0, 322, 695, 1067);
        Checks.same("P9 there it is at minute 0", y.waterMinute(0, 1, 0), 0);
        y.report(0, 0, 59);
        table("1380 plus 59 is minute 1439", y, 0, 321, 694, 1066, 1439);
    }

    /** "Half the range is rounded down", for the high and the low water. */
    private static void halfTheRangeIsRoundedDown() {
        int[][] rangeAndHalf = {{0, 0}, {1, 0}, {2, 1}, {3, 1}, {998, 499}, {999, 499}};
        for (int[] r : rangeAndHalf) {
            TideTablePainters x = new TideTablePainters();
            x.addPier(0, 600, r[0], r[0], 0);
            Checks.same("P10 high, range " + r[0], x.waterHeight(0, 0, 0), 600 + r[1]);
            Checks.same("P10 low, range " + r[0], x.waterHeight(0, 0, 1), 600 - r[1]);
        }
    }

    /** "The height in centimetres, which can be negative": from 0 - 499 to 999 + 499. */
    private static void greatestAndLeastHeight() {
        TideTablePainters x = new TideTablePainters();
        x.addPier(0, 0, 999, 0, 0);
        x.addPier(0, 999, 999, 0, 0);
        Checks.same("P10 least", x.waterHeight(0, 0, 1), -499);
        Checks.same("P10 greatest", x.waterHeight(1, 0, 0), 1498);
        Checks.same("P10 the mean level at neap tide", x.waterHeight(0, 22, 0), 0);
        Checks.same("P10 the mean level at neap tide", x.waterHeight(1, 22, 1), 999);
        x.deliverTin(TideTablePainters.RED, 5);
        x.order(0, 0);
        x.paint(1);
        Checks.same("P41 a negative height on a board", x.lineHeight(0, 3), -499);
    }

    /** "0 to 744, from this minute of the day to the next high water, which can be at this minute". */
    private static void nextHighWaterAtItsEdges() {
        TideTablePainters x = withDelay(0);
        int[][] minuteAndDue = {{0, 0}, {1, 744}, {744, 1}, {745, 0}, {746, 744}, {1439, 51}};
        for (int[] m : minuteAndDue) {
            Checks.same("P12 minute " + m[0], x.minutesToHighWater(0, 0, m[0]), m[1]);
        }
        Checks.same("P12 delay 744, minute 0", withDelay(744).minutesToHighWater(0, 0, 0), 744);
        Checks.same("P12 delay 744, minute 744", withDelay(744).minutesToHighWater(0, 0, 744), 0);
        TideTablePainters late = withDelay(744);
        late.report(0, 0, 60);
        Checks.same("P12 that of k = -1", late.minutesToHighWater(0, 0, 0), 59);
        Checks.same("P12 at that of k = -1", late.minutesToHighWater(0, 0, 59), 0);
        Checks.same("P12 behind that of k = -1", late.minutesToHighWater(0, 0, 60), 744);
        TideTablePainters early = withDelay(0);
        early.report(0, 0, -60);
        Checks.same("P12 that of k = 0 is over", early.minutesToHighWater(0, 0, 0), 685);
    }

    /** The next high water is on the next day, also on the last one that may be asked for. */
    private static void nextHighWaterOnAnotherDay() {
        Checks.same("P12 at minute 0 of the next day", withDelay(695).minutesToHighWater(0, 0, 1439), 1);
        Checks.same("P12 at minute 0", withDelay(695).minutesToHighWater(0, 1, 0), 0);
        // 1440 * 100000 = 745 * 193288 + 440: the next one is at minute 305 of day 100000.
        Checks.same("P12 behind the last day", withDelay(0).minutesToHighWater(0, 99999, 1439), 306);
        Checks.same("P12 at the end of the last day", withDelay(439).minutesToHighWater(0, 99999, 1439), 0);
        Checks.same("P12 just missed", withDelay(438).minutesToHighWater(0, 99999, 1439), 744);
    }

    /** All delays with the least, no and the greatest correction, on first, last and some other days. */
    private static void tablesOfAllDelays() {
        for (int delay = 0; delay <= 744; delay++) {
            for (int correction = -60; correction <= 60; correction += 60) {
                TideTablePainters x = new TideTablePainters();
                Model model = new Model();
                x.addPier(delay, 500, 999, 3, 0);
                model.addPier(delay, 500, 999, 3, 0);
                x.report(0, 0, correction);
                model.report(0, 0, correction);
                for (int day : new int[] {0, 1, 15, 29, 44, 99998, 99999}) {
                    String what = "delay " + delay + " correction " + correction + " day " + day;
                    sameTable(what, x, model, day);
                }
            }
        }
    }

    private static void sameTable(String what, TideTablePainters x, Model model, int day) {
        int waters = model.waterCount(0, day);
        Checks.same("P8 " + what, x.waterCount(0, day), waters);
        for (int i = 0; i < waters && i < x.waterCount(0, day); i++) {
            Checks.same("P9 " + what, x.waterMinute(0, day, i), model.waterMinute(0, day, i));
            Checks.same("P10 " + what, x.waterHeight(0, day, i), model.waterHeight(0, day, i));
            Checks.same("P11 " + what, x.isHighWater(0, day, i) ? 1 : 0, model.isHighWater(0, day, i) ? 1 : 0);
        }
        for (int minute : new int[] {0, 1439}) {
            Checks.same("P12 " + what, x.minutesToHighWater(0, day, minute),
                    model.minutesToHighWater(0, day, minute));
        }
    }
}
