/**
 * Calls that are refused for the state of the object, and calls to which several exceptions apply: the one that the
 * method lists first is thrown. None of them changes anything.
 */
final class RefusalTest {
    private static final Class<IllegalArgumentException> ARGUMENT = Checks.ILLEGAL_ARGUMENT;
    private static final Class<IllegalStateException> STATE = Checks.ILLEGAL_STATE;
    private static final Class<IndexOutOfBoundsException> INDEX = Checks.NO_INDEX;
    private static final Class<java.util.NoSuchElementException> ELEMENT = Checks.NO_ELEMENT;
    private static final int BLUE = TideTablePainters.BLUE;
    private static final int RED = TideTablePainters.RED;

    private RefusalTest() {
    }

    static void run() {
        fullService();
        tablesWithTwoFaults();
        reportsWithTwoFaults();
        missingReports();
        missingTins();
        ordersWithTwoFaults();
        missingOrders();
        missingJob();
        nothingToTouchUp();
        noPaintToTouchUp();
        linesWithTwoFaults();
        blankLines();
        nothingToPaint();
        questionsChangeNothing();
    }

    private static void fullService() {
        Scene full = new Scene(Scenes::full);
        full.refuses("P2 seventh pier", STATE, x -> x.addPier(744, 999, 999, 999, 9));
        full.refuses("P2 seventh pier, delay", ARGUMENT, x -> x.addPier(745, 0, 0, 0, 0));
        full.refuses("P2 seventh pier, mean", ARGUMENT, x -> x.addPier(0, 1000, 0, 0, 0));
        full.refuses("P2 seventh pier, spring", ARGUMENT, x -> x.addPier(0, 0, 1000, 0, 0));
        full.refuses("P2 seventh pier, neap", ARGUMENT, x -> x.addPier(0, 0, 5, 6, 0));
        full.refuses("P2 seventh pier, rungs", ARGUMENT, x -> x.addPier(0, 0, 0, 0, 10));
        for (int colour = BLUE; colour <= RED; colour++) {
            int c = colour;
            full.refuses("P21 thirteenth tin", STATE, x -> x.deliverTin(c, 999));
            full.refuses("P21 thirteenth tin without paint", ARGUMENT, x -> x.deliverTin(c, 0));
            full.refuses("P21 thirteenth tin too large", ARGUMENT, x -> x.deliverTin(c, 1000));
        }
        full.refuses("P21 colour and millilitres", ARGUMENT, x -> x.deliverTin(2, 1000));
        for (int pier = 0; pier < 6; pier++) {
            int p = pier;
            full.refuses("P28 second order for the same day", STATE, x -> x.order(p, 5));
            full.refuses("P28 second order for another day", STATE, x -> x.order(p, 6));
            full.refuses("P28 second order, day too great", ARGUMENT, x -> x.order(p, 100000));
            full.refuses("P28 second order, day too small", ARGUMENT, x -> x.order(p, -1));
        }
        full.answers("P13 a replacing report is no seventh", 26, x -> x.report(5, 0, 60));
    }

    private static void tablesWithTwoFaults() {
        Scene s = new Scene(Scenes::busy);
        for (int day : new int[] {-1, 100000}) {
            for (int pier : new int[] {-1, 3}) {
                s.refuses("P7 pier and day", INDEX, x -> x.rangeOf(pier, day));
                s.refuses("P8 pier and day", INDEX, x -> x.waterCount(pier, day));
                s.refuses("P9 day and pier", ARGUMENT, x -> x.waterMinute(pier, day, 0));
                s.refuses("P10 day and pier", ARGUMENT, x -> x.waterHeight(pier, day, 0));
                s.refuses("P11 day and pier", ARGUMENT, x -> x.isHighWater(pier, day, 0) ? 1 : 0);
                s.refuses("P9 all three", ARGUMENT, x -> x.waterMinute(pier, day, 4));
                s.refuses("P10 all three", ARGUMENT, x -> x.waterHeight(pier, day, 4));
                s.refuses("P11 all three", ARGUMENT, x -> x.isHighWater(pier, day, 4) ? 1 : 0);
                s.refuses("P12 pier and day", INDEX, x -> x.minutesToHighWater(pier, day, 0));
                s.refuses("P12 pier and minute", INDEX, x -> x.minutesToHighWater(pier, 0, 1440));
                s.refuses("P12 all three", INDEX, x -> x.minutesToHighWater(pier, day, -1));
            }
            s.refuses("P9 day and water", ARGUMENT, x -> x.waterMinute(0, day, 4));
            s.refuses("P10 day and water", ARGUMENT, x -> x.waterHeight(0, day, -1));
            s.refuses("P11 day and water", ARGUMENT, x -> x.isHighWater(0, day, 4) ? 1 : 0);
            s.refuses("P12 day and minute", ARGUMENT, x -> x.minutesToHighWater(0, day, 1440));
        }
        s.refuses("P9 pier and water", INDEX, x -> x.waterMinute(3, 0, 4));
        s.refuses("P10 pier and water", INDEX, x -> x.waterHeight(3, 0, 4));
        s.refuses("P11 pier and water", INDEX, x -> x.isHighWater(-1, 0, -1) ? 1 : 0);
    }

    private static void reportsWithTwoFaults() {
        Scene s = new Scene(Scenes::busy);
        for (int minutes : new int[] {-61, 61}) {
            s.refuses("P13 fisherman and minutes", INDEX, x -> x.report(6, 0, minutes));
            s.refuses("P13 pier and minutes", INDEX, x -> x.report(0, 3, minutes));
            s.refuses("P13 all three", INDEX, x -> x.report(-1, -1, minutes));
            s.refuses("P14 pier and minutes", INDEX, x -> x.observe(3, minutes));
            s.refuses("P14 pier and minutes", INDEX, x -> x.observe(-1, minutes));
        }
        s.refuses("P13 fisherman and pier", INDEX, x -> x.report(6, 3, 0));
        s.refuses("P18 pier and place", INDEX, x -> x.reporterAt(3, 6));
        s.refuses("P18 pier and place", INDEX, x -> x.reporterAt(-1, -1));
        s.refuses("P19 fisherman and pier", INDEX, x -> x.reportedMinutes(6, 3));
        s.refuses("P20 fisherman and pier", INDEX, x -> x.reportAge(-1, -1));
        // No report exists here, so that a missing report is a second fault of each of these.
        Scene none = new Scene(() -> Scenes.piers(1, 0));
        for (int wrong : new int[] {-1, 6}) {
            none.refuses("P19 fisherman without reports", INDEX, x -> x.reportedMinutes(wrong, 0));
            none.refuses("P19 pier without reports", INDEX, x -> x.reportedMinutes(0, wrong));
            none.refuses("P20 fisherman without reports", INDEX, x -> x.reportAge(wrong, 0));
            none.refuses("P20 pier without reports", INDEX, x -> x.reportAge(0, wrong));
        }
    }

    private static void missingReports() {
        Scene s = new Scene(Scenes::busy);
        s.refuses("P19 he has reported for another pier", ELEMENT, x -> x.reportedMinutes(2, 0));
        s.refuses("P20 he has reported for another pier", ELEMENT, x -> x.reportAge(2, 0));
        s.refuses("P19 another has reported for the pier", ELEMENT, x -> x.reportedMinutes(0, 1));
        s.refuses("P20 another has reported for the pier", ELEMENT, x -> x.reportAge(0, 1));
        s.refuses("P19 removed by an observation", ELEMENT, x -> x.reportedMinutes(1, 0));
        s.refuses("P20 removed by an observation", ELEMENT, x -> x.reportAge(1, 0));
        Scene aged = new Scene(() -> {
            TideTablePainters x = Scenes.piers(1, 0);
            x.report(4, 0, 9);
            x.passDays(10);
            return x;
        });
        aged.refuses("P19 removed by its age", ELEMENT, x -> x.reportedMinutes(4, 0));
        aged.refuses("P20 removed by its age", ELEMENT, x -> x.reportAge(4, 0));
        aged.refuses("P18 removed by its age", ELEMENT, x -> x.reporterAt(0, 0));
    }

    private static void missingTins() {
        Scene empty = new Scene(TideTablePainters::new);
        empty.refuses("P24 no blue tin", ELEMENT, x -> x.oldestTin(BLUE));
        empty.refuses("P24 no red tin", ELEMENT, x -> x.oldestTin(RED));
        empty.refuses("P24 colour without tins", ARGUMENT, x -> x.oldestTin(-1));
        empty.refuses("P24 colour without tins", ARGUMENT, x -> x.oldestTin(2));
        Scene emptied = new Scene(() -> {
            TideTablePainters x = Scenes.piers(1, 0);
            x.deliverTin(RED, 5);
            x.deliverTin(BLUE, 4);
            x.order(0, 0);
            x.paint(1);
            return x;
        });
        emptied.refuses("P24 the red tin is emptied", ELEMENT, x -> x.oldestTin(RED));
        emptied.answers("P24 the blue one is there", 4, x -> x.oldestTin(BLUE));
    }

    private static void ordersWithTwoFaults() {
        Scene s = new Scene(Scenes::busy);
        for (int pier : new int[] {-1, 3}) {
            s.refuses("P28 pier and day", INDEX, x -> x.order(pier, -1));
            s.refuses("P28 pier and day", INDEX, x -> x.order(pier, 100000));
            s.refuses("P29 pier without an order", INDEX, x -> x.cancelOrder(pier));
            s.refuses("P36 pier without lines", INDEX, x -> x.touchUp(pier));
        }
        s.refuses("P28 day, and an order waits", ARGUMENT, x -> x.order(0, 100000));
        s.refuses("P28 an order waits", STATE, x -> x.order(0, 19));
    }

    private static void missingOrders() {
        Scene s = new Scene(Scenes::busy);
        s.refuses("P29 never ordered again", ELEMENT, x -> x.cancelOrder(1));
        s.refuses("P29 the job is no waiting order", ELEMENT, x -> x.cancelOrder(2));
        Scene cancelled = new Scene(() -> {
            TideTablePainters x = Scenes.wideWithOrders();
            x.cancelOrder(5);
            return x;
        });
        cancelled.refuses("P29 cancelled before", ELEMENT, x -> x.cancelOrder(5));
        cancelled.refuses("P31 no sixth order", ELEMENT, x -> x.waitingPier(5));
        cancelled.answers("P31 the fifth order", 0, x -> x.waitingPier(4));
        cancelled.answers("P28 it may be ordered again", 0, x -> x.order(5, 0));
    }

    private static void missingJob() {
        new Scene(TideTablePainters::new).refuses("P35 never a job", STATE, x -> x.giveUpJob());
        new Scene(Scenes::wide).refuses("P35 all jobs have ended", STATE, x -> x.giveUpJob());
        new Scene(Scenes::full).refuses("P35 orders wait, but no job has begun", STATE, x -> x.giveUpJob());
        new Scene(Scenes::poor).refuses("P35 given up before", STATE, x -> x.giveUpJob());
    }

    private static void nothingToTouchUp() {
        Scene poor = new Scene(Scenes::poor);
        poor.refuses("P36 empty board, and no paint", ELEMENT, x -> x.touchUp(0));
        Scene painted = new Scene(() -> {
            TideTablePainters x = Scenes.piersAndPaint(2, 0);
            x.order(0, 0);
            x.order(1, 0);
            x.paint(5);
            return x;
        });
        painted.refuses("P36 all lines are readable", ELEMENT, x -> x.touchUp(0));
        painted.refuses("P36 lines are blank or readable", ELEMENT, x -> x.touchUp(1));
        Scene unpainted = new Scene(() -> {
            TideTablePainters x = Scenes.piers(1, 0);
            x.order(0, 0);
            x.paint(1);
            return x;
        });
        unpainted.refuses("P36 all lines are blank, and no paint", ELEMENT, x -> x.touchUp(0));
    }

    private static void noPaintToTouchUp() {
        Scene poor = new Scene(Scenes::poor);
        poor.refuses("P36 4 millilitres are too few", STATE, x -> x.touchUp(1));
        Scene two = new Scene(() -> {
            TideTablePainters x = Scenes.poor();
            x.deliverTin(BLUE, 4);
            x.deliverTin(RED, 999);
            return x;
        });
        two.refuses("P36 two tins are not mixed, the other colour is of no use", STATE, x -> x.touchUp(1));
        Scene none = new Scene(() -> {
            TideTablePainters x = Scenes.piers(1, 0);
            x.deliverTin(RED, 5);
            x.order(0, 0);
            x.paint(1);
            x.passDays(7);
            return x;
        });
        none.refuses("P36 no tin at all", STATE, x -> x.touchUp(0));
    }

    private static void linesWithTwoFaults() {
        // All lines are blank, so that a blank line is a second fault of each of these.
        Scene s = new Scene(() -> {
            TideTablePainters x = Scenes.piers(1, 0);
            x.order(0, 0);
            x.paint(1);
            return x;
        });
        for (int wrong : new int[] {-1, 4}) {
            s.refuses("P40 line of a blank board", INDEX, x -> x.lineMinute(0, wrong));
            s.refuses("P41 line of a blank board", INDEX, x -> x.lineHeight(0, wrong));
            s.refuses("P40 pier and line", INDEX, x -> x.lineMinute(wrong, wrong));
            s.refuses("P41 pier and line", INDEX, x -> x.lineHeight(wrong, wrong));
            s.refuses("P39 pier and line", INDEX, x -> x.lineState(wrong, wrong));
            s.refuses("P40 pier", INDEX, x -> x.lineMinute(wrong, 0));
            s.refuses("P41 pier", INDEX, x -> x.lineHeight(wrong, 0));
        }
    }

    private static void blankLines() {
        Scene s = new Scene(Scenes::busy);
        int[] states = {TideTablePainters.BLANK, TideTablePainters.READABLE, TideTablePainters.BLOTTED,
            TideTablePainters.FADED};
        for (int i = 0; i < 4; i++) {
            int line = i;
            s.answers("P39 line " + i, states[i], x -> x.lineState(1, line));
        }
        s.refuses("P40 blank", ELEMENT, x -> x.lineMinute(1, 0));
        s.refuses("P41 blank", ELEMENT, x -> x.lineHeight(1, 0));
        s.answers("P40 readable", 510, x -> x.lineMinute(1, 1));
        s.answers("P40 blotted", 882, x -> x.lineMinute(1, 2));
        s.answers("P40 faded", 1255, x -> x.lineMinute(1, 3));
        // Day 10: the age is 40, the distance 19, the range 301 - 201 * 19 / 29 = 170.
        s.answers("P41 readable", 235, x -> x.lineHeight(1, 1));
        s.answers("P41 blotted", 65, x -> x.lineHeight(1, 2));
        s.answers("P41 faded", 235, x -> x.lineHeight(1, 3));
    }

    /** Painting nothing is no fault: it answers 0. */
    private static void nothingToPaint() {
        new Scene(TideTablePainters::new).leaves("P34 a new service", 0, x -> x.paint(50));
        new Scene(Scenes::wide).leaves("P34 no order waits", 0, x -> x.paint(1));
        new Scene(Scenes::poor).leaves("P34 the job was given up", 0, x -> x.paint(1));
        Scene stuck = new Scene(() -> {
            TideTablePainters x = Scenes.piers(2, 3);
            x.deliverTin(BLUE, 999);
            x.deliverTin(RED, 7);
            x.deliverTin(RED, 7);
            x.order(0, 0);
            x.order(1, 1);
            x.paint(1);
            return x;
        });
        stuck.leaves("P34 the job has no red paint", 0, x -> x.paint(1));
        stuck.leaves("P34 the job has no red paint", 0, x -> x.paint(50));
    }

    private static void questionsChangeNothing() {
        Scene s = new Scene(Scenes::busy);
        s.leaves("P3", 3, x -> x.pierCount());
        s.leaves("P4", 10, x -> x.today());
        s.leaves("P6", 116, x -> x.moonAge(29));
        s.leaves("P7", 170, x -> x.rangeOf(1, 10));
        s.leaves("P8", 3, x -> x.waterCount(2, 0));
        s.leaves("P9", 327, x -> x.waterMinute(2, 0, 0));
        s.leaves("P10", 50 - 499, x -> x.waterHeight(2, 0, 0));
        s.leaves("P11", 1, x -> x.isHighWater(2, 0, 1) ? 1 : 0);
        s.leaves("P12", 744, x -> x.minutesToHighWater(2, 0, 701));
        s.leaves("P15", 8, x -> x.correctionOf(0));
        s.leaves("P16", 6, x -> x.trustOf(0));
        s.leaves("P17", 2, x -> x.reportCount(0));
        s.leaves("P18", 3, x -> x.reporterAt(0, 1));
        s.leaves("P19", 10, x -> x.reportedMinutes(0, 0));
        s.leaves("P20", 3, x -> x.reportAge(0, 0));
        s.leaves("P22", 2, x -> x.tinCount(RED));
        // Line 3 of pier 1 is high, line 2 low, line 1 high, line 3 of pier 2 high.
        s.leaves("P23", 340 - 11, x -> x.paintLeft(RED));
        s.leaves("P24", 300 - 11 - 11 - 5, x -> x.oldestTin(BLUE));
        s.leaves("P25", 20, x -> x.paintUsed());
        s.leaves("P26", 18, x -> x.paintDripped());
        s.leaves("P27", 18, x -> x.paintPoured());
        s.leaves("P30", 1, x -> x.waitingOrders());
        s.leaves("P31", 0, x -> x.waitingPier(0));
        s.leaves("P32", 2, x -> x.jobPier());
        s.leaves("P33", 3, x -> x.linesToPaint());
        s.leaves("P37", 10, x -> x.boardDay(1));
        s.leaves("P38", 4, x -> x.lineCount(1));
        s.leaves("P39", TideTablePainters.READABLE, x -> x.lineState(1, 1));
        s.leaves("P40", 510, x -> x.lineMinute(1, 1));
        s.leaves("P41", 235, x -> x.lineHeight(1, 1));
        s.leaves("P42", 6, x -> x.dripsOf(1));
        s.leaves("P43", 13, x -> x.unreadableLines(1));
        s.leaves("P44", 0, x -> x.isRight(1) ? 1 : 0);
        s.leaves("P45", 0, x -> x.rightBoards());
    }
}
