/** Promises 8 to 12: tide tables. */
final class TideTest {
    private static final int MAX = Integer.MAX_VALUE;

    private TideTest() {
    }

    static void run() {
        dayWithFourWaters();
        edgesOfTheDay();
        laterDays();
        negativeHeight();
        withCorrection();
        wrongInputs();
        nextHighWater();
    }

    private static void water(String what, TideTablePainters x, int[] at, int minute, int height, boolean high) {
        Checks.same("P9 minute " + what, x.waterMinute(at[0], at[1], at[2]), minute);
        Checks.same("P10 height " + what, x.waterHeight(at[0], at[1], at[2]), height);
        Checks.same("P11 kind " + what, x.isHighWater(at[0], at[1], at[2]) ? 1 : 0, high ? 1 : 0);
    }

    private static void dayWithFourWaters() {
        TideTablePainters x = new TideTablePainters();
        x.addPier(100, 300, 401, 200, 3);
        Checks.same("P8 four", x.waterCount(0, 0), 4);
        water("first", x, new int[] {0, 0, 0}, 100, 500, true);
        water("second", x, new int[] {0, 0, 1}, 472, 100, false);
        water("third", x, new int[] {0, 0, 2}, 845, 500, true);
        water("fourth", x, new int[] {0, 0, 3}, 1217, 100, false);
    }

    private static void edgesOfTheDay() {
        TideTablePainters x = new TideTablePainters();
        x.addPier(0, 0, 0, 0, 0);
        x.addPier(372, 0, 0, 0, 0);
        x.addPier(373, 0, 0, 0, 0);
        x.addPier(694, 0, 0, 0, 0);
        x.addPier(695, 0, 0, 0, 0);
        x.addPier(322, 0, 0, 0, 0);
        Checks.same("P8 high at minute 0", x.waterCount(0, 0), 4);
        water("at minute 0", x, new int[] {0, 0, 0}, 0, 0, true);
        water("last before 372", x, new int[] {0, 0, 3}, 1117, 0, false);
        // Delay 372: the low water of k = -1 is at minute -1 and so on the day before.
        Checks.same("P8 low at minute -1 is not here", x.waterCount(1, 0), 3);
        water("first of delay 372", x, new int[] {1, 0, 0}, 372, 0, true);
        Checks.same("P8 low at minute 0", x.waterCount(2, 0), 4);
        water("low at minute 0", x, new int[] {2, 0, 0}, 0, 0, false);
        water("high behind it", x, new int[] {2, 0, 1}, 373, 0, true);
        Checks.same("P8 high at minute 1439", x.waterCount(3, 0), 4);
        water("low first", x, new int[] {3, 0, 0}, 321, 0, false);
        water("high at minute 1439", x, new int[] {3, 0, 3}, 1439, 0, true);
        Checks.same("P8 high at minute 1440 is not here", x.waterCount(4, 0), 3);
        Checks.same("P8 low at minute 1439", x.waterCount(5, 0), 4);
        water("low at minute 1439", x, new int[] {5, 0, 3}, 1439, 0, false);
    }

    private static void laterDays() {
        TideTablePainters x = new TideTablePainters();
        x.addPier(100, 300, 400, 200, 3);
        Checks.same("P8 day 1", x.waterCount(0, 1), 4);
        water("day 1", x, new int[] {0, 1, 0}, 150, 486, true);
        water("day 1", x, new int[] {0, 1, 1}, 522, 114, false);
        Checks.same("P8 day 5", x.waterCount(0, 5), 3);
        water("day 5", x, new int[] {0, 5, 0}, 350, 431, true);
        water("day 5", x, new int[] {0, 5, 1}, 722, 169, false);
        water("day 5", x, new int[] {0, 5, 2}, 1095, 431, true);
        // 1440 * 99999 - 100 = 745 * 193286 + 390, so that a high water is 355 minutes after midnight.
        Checks.same("P8 last day", x.waterCount(0, 99999), 3);
        water("last day", x, new int[] {0, 99999, 0}, 355, 300 + (400 - 165) / 2, true);
        water("last day", x, new int[] {0, 99999, 2}, 1100, 300 + (400 - 165) / 2, true);
    }

    private static void negativeHeight() {
        TideTablePainters x = new TideTablePainters();
        x.addPier(0, 0, 999, 0, 0);
        Checks.same("P10 half of 999 is 499", x.waterHeight(0, 0, 0), 499);
        Checks.same("P10 negative", x.waterHeight(0, 0, 1), -499);
    }

    private static void withCorrection() {
        TideTablePainters x = new TideTablePainters();
        x.addPier(30, 100, 50, 50, 0);
        x.report(0, 0, -60);
        // High waters at -30, 715, 1460; low waters at 342 and 1087.
        Checks.same("P8 three remain", x.waterCount(0, 0), 3);
        water("moved", x, new int[] {0, 0, 0}, 342, 75, false);
        water("moved", x, new int[] {0, 0, 1}, 715, 125, true);
        water("moved", x, new int[] {0, 0, 2}, 1087, 75, false);
        x.report(0, 0, 60);
        water("late", x, new int[] {0, 0, 0}, 90, 125, true);
        Checks.same("P12 moved", x.minutesToHighWater(0, 0, 0), 90);
    }

    private static void wrongInputs() {
        TideTablePainters x = new TideTablePainters();
        x.addPier(100, 300, 400, 200, 3);
        Checks.fails("P8 pier first", Checks.NO_INDEX, () -> x.waterCount(1, 100000));
        Checks.fails("P8 pier", Checks.NO_INDEX, () -> x.waterCount(-1, 0));
        Checks.fails("P8 day", Checks.ILLEGAL_ARGUMENT, () -> x.waterCount(0, 100000));
        Checks.fails("P8 day", Checks.ILLEGAL_ARGUMENT, () -> x.waterCount(0, -1));
        int[][] noSuch = {{0, 0, 4}, {0, 0, -1}, {0, 5, 3}, {1, 0, 0}, {-1, 0, 0}, {0, 0, MAX}, {MAX, 99999, 0}};
        for (int[] w : noSuch) {
            Checks.fails("P9 index", Checks.NO_INDEX, () -> x.waterMinute(w[0], w[1], w[2]));
            Checks.fails("P10 index", Checks.NO_INDEX, () -> x.waterHeight(w[0], w[1], w[2]));
            Checks.fails("P11 index", Checks.NO_INDEX, () -> x.isHighWater(w[0], w[1], w[2]));
        }
        int[][] wrongDay = {{0, -1, 0}, {0, 100000, 0}, {1, 100000, 0}, {0, -1, 9}, {-1, MAX, -1}};
        for (int[] w : wrongDay) {
            Checks.fails("P9 day first", Checks.ILLEGAL_ARGUMENT, () -> x.waterMinute(w[0], w[1], w[2]));
            Checks.fails("P10 day first", Checks.ILLEGAL_ARGUMENT, () -> x.waterHeight(w[0], w[1], w[2]));
            Checks.fails("P11 day first", Checks.ILLEGAL_ARGUMENT, () -> x.isHighWater(w[0], w[1], w[2]));
        }
    }

    private static void nextHighWater() {
        TideTablePainters x = new TideTablePainters();
        x.addPier(100, 300, 400, 200, 3);
        Checks.same("P12 before it", x.minutesToHighWater(0, 0, 0), 100);
        Checks.same("P12 at it", x.minutesToHighWater(0, 0, 100), 0);
        Checks.same("P12 just behind it", x.minutesToHighWater(0, 0, 101), 744);
        Checks.same("P12 over midnight", x.minutesToHighWater(0, 0, 1439), 151);
        Checks.same("P12 last minute", x.minutesToHighWater(0, 99999, 1439), 406);
        Checks.fails("P12 pier first", Checks.NO_INDEX, () -> x.minutesToHighWater(1, -1, -1));
        Checks.fails("P12 day", Checks.ILLEGAL_ARGUMENT, () -> x.minutesToHighWater(0, 100000, 0));
        Checks.fails("P12 day", Checks.ILLEGAL_ARGUMENT, () -> x.minutesToHighWater(0, -1, 0));
        Checks.fails("P12 minute", Checks.ILLEGAL_ARGUMENT, () -> x.minutesToHighWater(0, 0, 1440));
        Checks.fails("P12 minute", Checks.ILLEGAL_ARGUMENT, () -> x.minutesToHighWater(0, 0, -1));
    }
}
