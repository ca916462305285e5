/** The sentences of the document that name a boundary case of reports, trusts, observations and ages. */
final class ReportEdgeTest {
    private ReportEdgeTest() {
    }

    static void run() {
        emptyList();
        fullList();
        replacedInEachPlace();
        removedFromEachPlace();
        correctionIsRoundedTowardZero();
        greatestAndLeastCorrection();
        trustStopsAtNine();
        trustStopsAtOne();
        extremeTrustsAsWeights();
        fiveMinutesAndSix();
        thirtyMinutesAndThirtyOne();
        greatestDifference();
        observeRemovesAllOrNone();
        observeChangesTrustAtAllPiers();
        trustOutlivesReports();
        ageZeroWhenMadeOrReplaced();
        nineDaysAndTen();
        tenDaysInOneCallOrTen();
        replacedOnTheNinthDay();
        eachAgeOfItsOwn();
        madeAgainAfterTenDays();
    }

    /** A pier with reports of the fishermen 0, 1, 2 .. in this order, for so many minutes. */
    private static TideTablePainters withReports(int... minutes) {
        TideTablePainters x = Scenes.piers(2, 0);
        for (int i = 0; i < minutes.length; i++) {
            x.report(i, 0, minutes[i]);
        }
        return x;
    }

    private static void list(String what, TideTablePainters x, int... fishermen) {
        Checks.same("P17 " + what, x.reportCount(0), fishermen.length);
        for (int i = 0; i < fishermen.length && i < x.reportCount(0); i++) {
            Checks.same("P18 " + what + ", place " + i, x.reporterAt(0, i), fishermen[i]);
        }
        Checks.fails("P18 " + what + ", behind the end", Checks.NO_ELEMENT, () -> x.reporterAt(0, fishermen.length));
    }

    /** "It is 0 without reports": before the first report and after the last one. */
    private static void emptyList() {
        TideTablePainters x = withReports();
        list("no report", x);
        Checks.same("P15 no report", x.correctionOf(0), 0);
        Checks.same("P14 no report", x.observe(0, 60), 0);
        x.report(3, 0, 60);
        Checks.same("P15 one report", x.correctionOf(0), 60);
        Checks.same("P14 its only report goes", x.observe(0, 0), 1);
        list("no report any more", x);
        Checks.same("P15 no report any more", x.correctionOf(0), 0);
    }

    /** "A fisherman has at most one report for a pier": six reports are all. */
    private static void fullList() {
        TideTablePainters x = Scenes.piers(6, 0);
        for (int fisherman = 5; fisherman >= 0; fisherman--) {
            for (int pier = 0; pier < 6; pier++) {
                x.report(fisherman, pier, pier);
            }
        }
        list("six", x, 5, 4, 3, 2, 1, 0);
        for (int pier = 0; pier < 6; pier++) {
            Checks.same("P17 six for each pier", x.reportCount(pier), 6);
            Checks.same("P15 the same of each", x.correctionOf(pier), pier);
        }
        x.report(0, 0, 6);
        x.report(5, 0, 6);
        list("still six", x, 5, 4, 3, 2, 1, 0);
        Checks.same("P15 two of six", x.correctionOf(0), 2);
    }

    /** "A report that replaces another one .. keeps the place of that one": first, middle and last place. */
    private static void replacedInEachPlace() {
        for (int fisherman = 0; fisherman < 6; fisherman++) {
            TideTablePainters x = withReports(1, 2, 3, 4, 5, 6);
            x.report(fisherman, 0, -60);
            list("replaced", x, 0, 1, 2, 3, 4, 5);
            for (int other = 0; other < 6; other++) {
                Checks.same("P19 minutes", x.reportedMinutes(other, 0), other == fisherman ? -60 : other + 1);
            }
        }
    }

    /** The others keep their order, minutes and ages if the first, a middle or the last report is removed. */
    private static void removedFromEachPlace() {
        for (int gone = 0; gone < 6; gone++) {
            TideTablePainters x = Scenes.piers(2, 0);
            for (int i = 0; i < 6; i++) {
                x.report(i, 0, i == gone ? 60 : i);
                x.passDays(1);
            }
            Checks.same("P14 one goes", x.observe(0, 0), 1);
            Checks.same("P17 five stay", x.reportCount(0), 5);
            for (int place = 0; place < 5; place++) {
                int fisherman = place < gone ? place : place + 1;
                Checks.same("P18 place", x.reporterAt(0, place), fisherman);
                Checks.same("P19 minutes", x.reportedMinutes(fisherman, 0), fisherman);
                Checks.same("P20 age", x.reportAge(fisherman, 0), 6 - fisherman);
            }
            x.report(gone, 0, 7);
            Checks.same("P18 made again it is the last", x.reporterAt(0, 5), gone);
            Checks.same("P20 made again it is new", x.reportAge(gone, 0), 0);
        }
    }

    /** "The quotient being rounded toward 0": from both sides, and exact ones. */
    private static void correctionIsRoundedTowardZero() {
        int[][] minutesAndDue = {{1, 0, 0}, {-1, 0, 0}, {1, 2, 1}, {-1, -2, -1}, {5, -2, 1}, {-5, 2, -1},
            {3, 1, 2}, {-3, -1, -2}, {60, -60, 0}, {60, 59, 59}, {-60, -59, -59}};
        for (int[] m : minutesAndDue) {
            TideTablePainters x = withReports(m[0], m[1]);
            Checks.same("P15 of " + m[0] + " and " + m[1], x.correctionOf(0), m[2]);
        }
        Checks.same("P15 5 / 6", withReports(0, 0, 0, 0, 0, 5).correctionOf(0), 0);
        Checks.same("P15 6 / 6", withReports(0, 0, 0, 0, 0, 6).correctionOf(0), 1);
        Checks.same("P15 -5 / 6", withReports(0, 0, 0, 0, 0, -5).correctionOf(0), 0);
        Checks.same("P15 -6 / 6", withReports(0, 0, 0, 0, 0, -6).correctionOf(0), -1);
        Checks.same("P15 -11 / 6", withReports(0, 0, 0, 0, 0, -11).correctionOf(0), -1);
    }

    /** "-60 to 60": of one and of six reports. */
    private static void greatestAndLeastCorrection() {
        Checks.same("P13 greatest", withReports().report(5, 1, 60), 60);
        Checks.same("P13 least", withReports().report(5, 1, -60), -60);
        Checks.same("P15 six greatest", withReports(60, 60, 60, 60, 60, 60).correctionOf(0), 60);
        Checks.same("P15 six least", withReports(-60, -60, -60, -60, -60, -60).correctionOf(0), -60);
    }

    /** "The trust of its fisherman increases by 1, but not above 9". */
    private static void trustStopsAtNine() {
        TideTablePainters x = withReports(10);
        for (int due : new int[] {6, 7, 8, 9, 9, 9}) {
            x.observe(0, 10);
            Checks.same("P14 upwards", x.trustOf(0), due);
        }
        x.observe(0, 16);
        Checks.same("P14 9 is not held back", x.trustOf(0), 8);
        Checks.same("P16 the others stay at 5", x.trustOf(1) + x.trustOf(5), 10);
    }

    /** "Otherwise it decreases by 1, but not below 1". */
    private static void trustStopsAtOne() {
        TideTablePainters x = withReports(10);
        for (int due : new int[] {4, 3, 2, 1, 1, 1}) {
            x.observe(0, 30);
            Checks.same("P14 downwards", x.trustOf(0), due);
        }
        Checks.same("P17 the report stays", x.reportCount(0), 1);
        Checks.same("P14 the report goes, too", x.observe(0, 41), 1);
        Checks.same("P14 1 stays 1", x.trustOf(0), 1);
        x.report(0, 0, 41);
        x.observe(0, 41);
        Checks.same("P14 1 is not held back", x.trustOf(0), 2);
    }

    /** "The present trust of the fisherman", 9 and 1, also if all have the same. */
    private static void extremeTrustsAsWeights() {
        TideTablePainters x = withReports(0, 20);
        for (int i = 0; i < 4; i++) {
            x.observe(0, 0);
        }
        Checks.same("P15 (0 * 9 + 20 * 1) / 10", x.correctionOf(0), 2);
        for (int i = 0; i < 8; i++) {
            x.observe(0, 20);
        }
        Checks.same("P16 now 1", x.trustOf(0), 1);
        Checks.same("P16 now 9", x.trustOf(1), 9);
        Checks.same("P15 (0 * 1 + 20 * 9) / 10", x.correctionOf(0), 18);
        TideTablePainters y = withReports(-60, -60, -60, -60, -60, -60);
        for (int i = 0; i < 4; i++) {
            y.observe(0, -60);
        }
        Checks.same("P15 six of trust 9", y.correctionOf(0), -60);
        for (int i = 0; i < 8; i++) {
            y.observe(0, -30);
        }
        Checks.same("P16 six of trust 1", y.trustOf(5), 1);
        Checks.same("P15 six of trust 1", y.correctionOf(0), -60);
    }

    private static void observed(int minutes, int observed, int trust, int removed) {
        TideTablePainters x = withReports(minutes);
        String what = minutes + " reported, " + observed + " observed";
        Checks.same("P14 " + what, x.observe(0, observed), removed);
        Checks.same("P16 " + what, x.trustOf(0), trust);
        Checks.same("P17 " + what, x.reportCount(0), 1 - removed);
    }

    /** "If it differs from this by at most 5 minutes", on both sides. */
    private static void fiveMinutesAndSix() {
        observed(10, 10, 6, 0);
        observed(10, 5, 6, 0);
        observed(10, 15, 6, 0);
        observed(10, 4, 4, 0);
        observed(10, 16, 4, 0);
        observed(-2, 3, 6, 0);
        observed(-3, 3, 4, 0);
        observed(60, 55, 6, 0);
        observed(-60, -55, 6, 0);
        observed(60, 54, 4, 0);
        observed(-60, -54, 4, 0);
    }

    /** "If it differs by more than 30 minutes, the report is removed", on both sides. */
    private static void thirtyMinutesAndThirtyOne() {
        observed(10, 40, 4, 0);
        observed(10, 41, 4, 1);
        observed(10, -20, 4, 0);
        observed(10, -21, 4, 1);
        observed(-60, -30, 4, 0);
        observed(-60, -29, 4, 1);
        observed(60, 30, 4, 0);
        observed(60, 29, 4, 1);
    }

    private static void greatestDifference() {
        observed(-60, 60, 4, 1);
        observed(60, -60, 4, 1);
    }

    /** "Returns the number of removed reports": none of six, all six, and the first and the last of six. */
    private static void observeRemovesAllOrNone() {
        Checks.same("P14 none of six", withReports(0, 5, 10, 15, 20, 30).observe(0, 0), 0);
        TideTablePainters x = withReports(31, 60, -31, -60, 45, -45);
        Checks.same("P14 all six", x.observe(0, 0), 6);
        list("all removed", x);
        for (int i = 0; i < 6; i++) {
            Checks.same("P16 each once", x.trustOf(i), 4);
        }
        TideTablePainters y = withReports(31, 0, 0, 0, 0, 31);
        Checks.same("P14 first and last", y.observe(0, 0), 2);
        list("first and last removed", y, 1, 2, 3, 4);
        TideTablePainters z = withReports(0, 31, 31, 31, 31, 0);
        Checks.same("P14 all between", z.observe(0, 0), 4);
        list("all between removed", z, 0, 5);
    }

    /** A fisherman has one trust for all piers; the reports for other piers stay. */
    private static void observeChangesTrustAtAllPiers() {
        TideTablePainters x = withReports(0, 40);
        x.report(0, 1, 10);
        x.report(1, 1, 0);
        Checks.same("P15 (10 * 5 + 0 * 5) / 10", x.correctionOf(1), 5);
        Checks.same("P14 pier 0", x.observe(0, 0), 1);
        Checks.same("P15 (10 * 6 + 0 * 4) / 10", x.correctionOf(1), 6);
        Checks.same("P17 pier 1 keeps its reports", x.reportCount(1), 2);
    }

    /** The trust belongs to the fisherman: it stays when his report goes. */
    private static void trustOutlivesReports() {
        TideTablePainters x = withReports(0);
        x.observe(0, 0);
        x.passDays(10);
        Checks.same("P16 after ten days", x.trustOf(0), 6);
        x.report(0, 0, 60);
        x.observe(0, 0);
        Checks.same("P16 after a removal", x.trustOf(0), 5);
        Checks.same("P15 no report is left", x.correctionOf(0), 0);
    }

    /** "The age of a report in days is 0 when it is made or replaced". */
    private static void ageZeroWhenMadeOrReplaced() {
        TideTablePainters x = withReports(1);
        Checks.same("P20 made", x.reportAge(0, 0), 0);
        x.passDays(1);
        Checks.same("P20 one day", x.reportAge(0, 0), 1);
        x.report(0, 0, 1);
        Checks.same("P20 replaced by the same minutes", x.reportAge(0, 0), 0);
        x.observe(0, 1);
        x.passDays(1);
        Checks.same("P20 an observation does not renew it", x.reportAge(0, 0), 1);
    }

    /** "Removed if it is 10 days old then": not with 9 days. */
    private static void nineDaysAndTen() {
        TideTablePainters x = withReports(30);
        x.passDays(9);
        Checks.same("P20 nine days", x.reportAge(0, 0), 9);
        Checks.same("P15 nine days", x.correctionOf(0), 30);
        x.passDays(1);
        list("ten days", x);
        Checks.same("P15 ten days", x.correctionOf(0), 0);
    }

    private static void tenDaysInOneCallOrTen() {
        for (int days : new int[] {10, 11, 60}) {
            TideTablePainters x = withReports(30, 20, 10);
            x.passDays(days);
            list(days + " days", x);
        }
        TideTablePainters y = withReports(30);
        for (int day = 1; day <= 9; day++) {
            y.passDays(1);
            Checks.same("P20 day by day", y.reportAge(0, 0), day);
        }
        y.passDays(1);
        list("the tenth day", y);
        TideTablePainters z = withReports(30);
        z.passDays(8);
        z.passDays(3);
        list("from 8 over 10 to 11", z);
    }

    private static void replacedOnTheNinthDay() {
        TideTablePainters x = withReports(30, 20);
        x.passDays(9);
        x.report(0, 0, 31);
        x.passDays(1);
        list("the other is ten days old", x, 0);
        Checks.same("P20 one day", x.reportAge(0, 0), 1);
        x.passDays(8);
        Checks.same("P20 nine days again", x.reportAge(0, 0), 9);
        x.passDays(1);
        list("ten days again", x);
    }

    /** "Each report becomes one day older": those of one call go at different times. */
    private static void eachAgeOfItsOwn() {
        TideTablePainters x = Scenes.piers(2, 0);
        for (int i = 0; i < 6; i++) {
            x.report(i, 0, i);
            x.report(5 - i, 1, i);
            x.passDays(1);
        }
        // Now they are 6 to 1 days old.
        x.passDays(3);
        list("the oldest is nine days old", x, 0, 1, 2, 3, 4, 5);
        x.passDays(1);
        list("the oldest is gone", x, 1, 2, 3, 4, 5);
        x.passDays(2);
        list("two more are gone", x, 3, 4, 5);
        Checks.same("P19 minutes", x.reportedMinutes(4, 0), 4);
        Checks.same("P20 age", x.reportAge(3, 0), 9);
        Checks.same("P20 age", x.reportAge(5, 0), 7);
        Checks.same("P17 the other pier", x.reportCount(1), 3);
        Checks.same("P18 the other pier", x.reporterAt(1, 0), 2);
        Checks.same("P20 the other pier", x.reportAge(0, 1), 7);
    }

    private static void madeAgainAfterTenDays() {
        TideTablePainters x = withReports(1, 2);
        x.passDays(5);
        x.report(2, 0, 3);
        x.passDays(5);
        list("two are gone", x, 2);
        x.report(0, 0, 4);
        list("made again it is the last", x, 2, 0);
        Checks.same("P20 made again it is new", x.reportAge(0, 0), 0);
        Checks.same("P20 the other is not", x.reportAge(2, 0), 5);
    }
}
