/** Promises 1 to 7: a new object, piers, days and the moon. */
final class PierTest {
    private static final int MIN = Integer.MIN_VALUE;
    private static final int MAX = Integer.MAX_VALUE;

    private PierTest() {
    }

    static void run() {
        newObject();
        addPier();
        addPierOutOfRange();
        seventhPier();
        daysPass();
        moonAge();
        rangeOf();
    }

    private static void newObject() {
        TideTablePainters x = new TideTablePainters();
        Checks.same("P1 piers", x.pierCount(), 0);
        Checks.same("P1 day", x.today(), 0);
        Checks.same("P1 blue tins", x.tinCount(TideTablePainters.BLUE), 0);
        Checks.same("P1 red tins", x.tinCount(TideTablePainters.RED), 0);
        Checks.same("P1 orders", x.waitingOrders(), 0);
        Checks.same("P1 job", x.jobPier(), TideTablePainters.NONE);
        Checks.same("P1 lines to paint", x.linesToPaint(), 0);
        Checks.same("P1 used", x.paintUsed() + x.paintDripped() + x.paintPoured(), 0);
        Checks.same("P1 right boards", x.rightBoards(), 0);
        for (int i = 0; i < 6; i++) {
            Checks.same("P1 trust", x.trustOf(i), 5);
        }
        x.addPier(0, 0, 0, 0, 0);
        Checks.same("P1 reports", x.reportCount(0), 0);
        TideTablePainters other = new TideTablePainters();
        Checks.same("P1 objects are apart", other.pierCount(), 0);
    }

    private static void addPier() {
        TideTablePainters x = new TideTablePainters();
        Checks.same("P2 first", x.addPier(0, 0, 0, 0, 0), 0);
        Checks.same("P3 one", x.pierCount(), 1);
        Checks.same("P2 second", x.addPier(744, 999, 999, 999, 9), 1);
        Checks.same("P2 third", x.addPier(10, 20, 30, 0, 4), 2);
        Checks.same("P3 three", x.pierCount(), 3);
        Checks.same("P2 empty board", x.boardDay(2), TideTablePainters.NONE);
        Checks.same("P2 no lines", x.lineCount(2), 0);
        Checks.same("P2 no drips", x.dripsOf(2), 0);
        Checks.same("P2 delay", x.waterMinute(2, 0, 0), 10);
        Checks.same("P2 mean and spring", x.waterHeight(2, 0, 0), 35);
        Checks.same("P2 delay 744 has a low water before", x.waterMinute(1, 0, 0), 371);
        Checks.same("P2 height of it", x.waterHeight(1, 0, 0), 999 - 499);
    }

    private static void addPierOutOfRange() {
        TideTablePainters x = new TideTablePainters();
        int[][] wrong = {
            {-1, 0, 0, 0, 0}, {745, 0, 0, 0, 0}, {MIN, 0, 0, 0, 0}, {MAX, 0, 0, 0, 0},
            {0, -1, 0, 0, 0}, {0, 1000, 0, 0, 0}, {0, MIN, 0, 0, 0}, {0, MAX, 0, 0, 0},
            {0, 0, -1, 0, 0}, {0, 0, 1000, 0, 0}, {0, 0, MIN, MIN, 0}, {0, 0, MAX, 0, 0}, {0, 0, -1, -1, 0},
            {0, 0, 0, -1, 0}, {0, 0, 5, 6, 0}, {0, 0, 5, MIN, 0}, {0, 0, 999, 1000, 0}, {0, 0, 1000, 1000, 0},
            {0, 0, 0, 0, -1}, {0, 0, 0, 0, 10}, {0, 0, 0, 0, MIN}, {0, 0, 0, 0, MAX}};
        for (int[] p : wrong) {
            Checks.fails("P2 " + java.util.Arrays.toString(p), Checks.ILLEGAL_ARGUMENT,
                    () -> x.addPier(p[0], p[1], p[2], p[3], p[4]));
        }
        Checks.same("P2 a wrong call adds nothing", x.pierCount(), 0);
        Checks.same("P2 neap may be spring", x.addPier(0, 0, 5, 5, 0), 0);
    }

    private static void seventhPier() {
        TideTablePainters x = new TideTablePainters();
        for (int i = 0; i < 6; i++) {
            Checks.same("P2 six piers", x.addPier(0, 0, 0, 0, 0), i);
        }
        Checks.fails("P2 seventh", Checks.ILLEGAL_STATE, () -> x.addPier(0, 0, 0, 0, 0));
        Checks.fails("P2 seventh and wrong", Checks.ILLEGAL_ARGUMENT, () -> x.addPier(0, 0, 0, 0, 10));
        Checks.same("P3 six", x.pierCount(), 6);
    }

    private static void daysPass() {
        TideTablePainters x = new TideTablePainters();
        Checks.same("P5 one day", x.passDays(1), 1);
        Checks.same("P4 day 1", x.today(), 1);
        Checks.same("P5 sixty days", x.passDays(60), 61);
        Checks.same("P4 day 61", x.today(), 61);
        for (int days : new int[] {0, 61, -1, MIN, MAX}) {
            Checks.fails("P5 " + days, Checks.ILLEGAL_ARGUMENT, () -> x.passDays(days));
        }
        Checks.same("P4 wrong calls let no day pass", x.today(), 61);
    }

    private static void moonAge() {
        TideTablePainters x = new TideTablePainters();
        int[][] ages = {{0, 0}, {1, 4}, {14, 56}, {15, 60}, {29, 116}, {30, 2}, {59, 0}, {99999, 94}};
        for (int[] a : ages) {
            Checks.same("P6 day " + a[0], x.moonAge(a[0]), a[1]);
        }
        for (int day : new int[] {-1, 100000, MIN, MAX}) {
            Checks.fails("P6 " + day, Checks.ILLEGAL_ARGUMENT, () -> x.moonAge(day));
        }
        x.passDays(7);
        Checks.same("P6 does not depend on the present day", x.moonAge(1), 4);
    }

    private static void rangeOf() {
        TideTablePainters x = new TideTablePainters();
        x.addPier(100, 300, 400, 200, 3);
        x.addPier(0, 0, 29, 0, 0);
        x.addPier(0, 0, 999, 998, 0);
        // Ages 0, 4, 28, 32, 56, 60, 118 - 2: r is 0, 4, 28, 32, 56, 1, 57.
        int[][] ranges = {{0, 400}, {1, 373}, {7, 207}, {8, 214}, {14, 380}, {15, 394}, {29, 387}, {22, 200}};
        for (int[] r : ranges) {
            Checks.same("P7 day " + r[0], x.rangeOf(0, r[0]), r[1]);
        }
        Checks.same("P7 distance 28", x.rangeOf(1, 7), 1);
        Checks.same("P7 distance 29", x.rangeOf(1, 22), 0);
        Checks.same("P7 the quotient is rounded down", x.rangeOf(2, 7), 999);
        Checks.same("P7 neap", x.rangeOf(2, 22), 998);
        Checks.same("P7 last day", x.rangeOf(0, 99999), 400 - 200 * 24 / 29);
        Checks.fails("P7 no pier", Checks.NO_INDEX, () -> x.rangeOf(3, 0));
        Checks.fails("P7 no pier", Checks.NO_INDEX, () -> x.rangeOf(-1, 0));
        Checks.fails("P7 the pier comes first", Checks.NO_INDEX, () -> x.rangeOf(MAX, -1));
        Checks.fails("P7 day", Checks.ILLEGAL_ARGUMENT, () -> x.rangeOf(0, -1));
        Checks.fails("P7 day", Checks.ILLEGAL_ARGUMENT, () -> x.rangeOf(0, 100000));
    }
}
