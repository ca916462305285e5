/** Promises 13 to 20: reports of fishermen, and what passing days do to them. */
final class ReportTest {
    private static final int MIN = Integer.MIN_VALUE;
    private static final int MAX = Integer.MAX_VALUE;

    private ReportTest() {
    }

    static void run() {
        reportsAndCorrection();
        replacedReportKeepsItsPlace();
        presentTrustCounts();
        wrongReports();
        observeChangesTrust();
        observeRemoves();
        trustStaysWithinBounds();
        reportsAge();
        wrongQuestions();
    }

    private static TideTablePainters withPiers(int piers) {
        TideTablePainters x = new TideTablePainters();
        for (int i = 0; i < piers; i++) {
            x.addPier(100, 300, 400, 200, 3);
        }
        return x;
    }

    private static void reportsAndCorrection() {
        TideTablePainters x = withPiers(2);
        Checks.same("P15 without reports", x.correctionOf(0), 0);
        Checks.same("P13 first", x.report(0, 0, 30), 30);
        Checks.same("P13 mean rounded toward 0", x.report(1, 0, -11), 9);
        Checks.same("P13 negative mean rounded toward 0", x.report(0, 0, 0), -5);
        Checks.same("P15 the same", x.correctionOf(0), -5);
        Checks.same("P15 other pier", x.correctionOf(1), 0);
        Checks.same("P13 other pier", x.report(0, 1, 60), 60);
        Checks.same("P13 least", x.report(0, 1, -60), -60);
        Checks.same("P17 two", x.reportCount(0), 2);
        Checks.same("P17 one", x.reportCount(1), 1);
        for (int i = 0; i < 6; i++) {
            x.report(i, 1, 10 * i);
        }
        Checks.same("P17 six", x.reportCount(1), 6);
        Checks.same("P15 six", x.correctionOf(1), 25);
    }

    private static void replacedReportKeepsItsPlace() {
        TideTablePainters x = withPiers(1);
        x.report(4, 0, 1);
        x.report(2, 0, 2);
        x.report(5, 0, 3);
        x.passDays(2);
        x.report(4, 0, 9);
        int[] order = {4, 2, 5};
        int[] minutes = {9, 2, 3};
        int[] ages = {0, 2, 2};
        for (int i = 0; i < 3; i++) {
            Checks.same("P18 place " + i, x.reporterAt(0, i), order[i]);
            Checks.same("P19 minutes " + i, x.reportedMinutes(order[i], 0), minutes[i]);
            Checks.same("P20 age " + i, x.reportAge(order[i], 0), ages[i]);
        }
        Checks.same("P17 three", x.reportCount(0), 3);
    }

    private static void presentTrustCounts() {
        TideTablePainters x = withPiers(2);
        x.report(0, 0, 10);
        x.report(1, 0, -10);
        x.report(0, 1, 0);
        x.report(1, 1, 20);
        for (int i = 0; i < 4; i++) {
            x.observe(1, 0);
        }
        // Now fisherman 0 has trust 9 and fisherman 1 trust 1: (90 - 10) / 10.
        Checks.same("P16 up", x.trustOf(0), 9);
        Checks.same("P16 down", x.trustOf(1), 1);
        Checks.same("P15 weighed by trust", x.correctionOf(0), 8);
        Checks.same("P13 weighed by trust", x.report(1, 0, 60), 15);
    }

    private static void wrongReports() {
        TideTablePainters x = withPiers(1);
        x.report(0, 0, 7);
        int[][] noSuch = {{6, 0, 0}, {-1, 0, 0}, {0, 1, 0}, {0, -1, 0}, {6, 0, 61}, {0, 1, -61}, {MIN, MAX, 0}};
        for (int[] r : noSuch) {
            Checks.fails("P13 index", Checks.NO_INDEX, () -> x.report(r[0], r[1], r[2]));
        }
        for (int minutes : new int[] {61, -61, MIN, MAX}) {
            Checks.fails("P13 minutes", Checks.ILLEGAL_ARGUMENT, () -> x.report(0, 0, minutes));
            Checks.fails("P14 minutes", Checks.ILLEGAL_ARGUMENT, () -> x.observe(0, minutes));
        }
        Checks.fails("P14 pier", Checks.NO_INDEX, () -> x.observe(1, 0));
        Checks.fails("P14 pier first", Checks.NO_INDEX, () -> x.observe(-1, 61));
        Checks.same("P13 nothing changed", x.reportedMinutes(0, 0), 7);
        Checks.same("P14 nothing changed", x.trustOf(0), 5);
    }

    private static void observeChangesTrust() {
        TideTablePainters x = withPiers(2);
        int[] minutes = {15, 16, 5, 4, 40, -20};
        int[] trusts = {6, 4, 6, 4, 4, 4};
        for (int i = 0; i < 6; i++) {
            x.report(i, 0, minutes[i]);
        }
        Checks.same("P14 30 off stays", x.observe(0, 10), 0);
        for (int i = 0; i < 6; i++) {
            Checks.same("P16 fisherman " + i, x.trustOf(i), trusts[i]);
        }
        Checks.same("P17 all stay", x.reportCount(0), 6);
        Checks.same("P14 pier without reports", x.observe(1, 10), 0);
        Checks.same("P16 untouched", x.trustOf(0), 6);
    }

    private static void observeRemoves() {
        TideTablePainters x = withPiers(2);
        int[] minutes = {41, 10, -21, 40, 60, -60};
        for (int i = 0; i < 6; i++) {
            x.report(i, 0, minutes[i]);
        }
        x.report(0, 1, 41);
        Checks.same("P14 31 off goes", x.observe(0, 10), 4);
        Checks.same("P17 two stay", x.reportCount(0), 2);
        Checks.same("P18 order stays", x.reporterAt(0, 0), 1);
        Checks.same("P18 order stays", x.reporterAt(0, 1), 3);
        Checks.same("P19 minutes stay", x.reportedMinutes(3, 0), 40);
        Checks.same("P16 each once", x.trustOf(0), 4);
        Checks.same("P16 each once", x.trustOf(5), 4);
        Checks.same("P17 other pier", x.reportCount(1), 1);
        Checks.fails("P19 removed", Checks.NO_ELEMENT, () -> x.reportedMinutes(0, 0));
        x.report(0, 0, 9);
        Checks.same("P18 made anew it is the last", x.reporterAt(0, 2), 0);
    }

    private static void trustStaysWithinBounds() {
        TideTablePainters x = withPiers(1);
        x.report(0, 0, 0);
        x.report(1, 0, 6);
        for (int i = 0; i < 7; i++) {
            x.observe(0, 0);
        }
        Checks.same("P14 not above 9", x.trustOf(0), 9);
        Checks.same("P14 not below 1", x.trustOf(1), 1);
        x.observe(0, 6);
        Checks.same("P14 back from 9", x.trustOf(0), 8);
        Checks.same("P14 back from 1", x.trustOf(1), 2);
    }

    private static void reportsAge() {
        TideTablePainters x = withPiers(2);
        x.report(3, 0, 20);
        x.report(1, 1, 5);
        x.passDays(3);
        x.report(2, 0, 40);
        Checks.same("P20 three days", x.reportAge(3, 0), 3);
        Checks.same("P20 new", x.reportAge(2, 0), 0);
        x.passDays(1);
        x.report(5, 0, 40);
        x.passDays(5);
        Checks.same("P5 nine days old stays", x.reportCount(0), 3);
        Checks.same("P20 nine days", x.reportAge(3, 0), 9);
        x.passDays(1);
        Checks.same("P5 ten days old goes", x.reportCount(0), 2);
        Checks.same("P20 the age moves up too", x.reportAge(2, 0), 7);
        Checks.same("P20 the age moves up too", x.reportAge(5, 0), 6);
        Checks.same("P5 on each pier", x.reportCount(1), 0);
        Checks.same("P18 the other moves up", x.reporterAt(0, 0), 2);
        Checks.same("P15 the other remains", x.correctionOf(0), 40);
        Checks.fails("P20 gone", Checks.NO_ELEMENT, () -> x.reportAge(3, 0));
        x.passDays(60);
        Checks.same("P5 gone in many days", x.reportCount(0), 0);
        Checks.same("P15 none", x.correctionOf(0), 0);
    }

    private static void wrongQuestions() {
        TideTablePainters x = withPiers(1);
        x.report(0, 0, 1);
        for (int i : new int[] {-1, 1, MIN, MAX}) {
            Checks.fails("P15 pier", Checks.NO_INDEX, () -> x.correctionOf(i));
            Checks.fails("P17 pier", Checks.NO_INDEX, () -> x.reportCount(i));
            Checks.fails("P18 pier", Checks.NO_INDEX, () -> x.reporterAt(i, 0));
            Checks.fails("P18 pier first", Checks.NO_INDEX, () -> x.reporterAt(i, 9));
            Checks.fails("P18 place", Checks.NO_ELEMENT, () -> x.reporterAt(0, i));
            Checks.fails("P19 pier", Checks.NO_INDEX, () -> x.reportedMinutes(0, i));
            Checks.fails("P20 pier", Checks.NO_INDEX, () -> x.reportAge(0, i));
        }
        for (int i : new int[] {-1, 6, MIN, MAX}) {
            Checks.fails("P16 fisherman", Checks.NO_INDEX, () -> x.trustOf(i));
            Checks.fails("P19 fisherman", Checks.NO_INDEX, () -> x.reportedMinutes(i, 0));
            Checks.fails("P20 fisherman", Checks.NO_INDEX, () -> x.reportAge(i, 0));
        }
        Checks.fails("P19 no report", Checks.NO_ELEMENT, () -> x.reportedMinutes(1, 0));
        Checks.fails("P20 no report", Checks.NO_ELEMENT, () -> x.reportAge(1, 0));
    }
}
