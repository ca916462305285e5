/** The sentences of the document that name a boundary case of orders, jobs, drips and touching up. */
final class OrderEdgeTest {
    private static final int BLUE = TideTablePainters.BLUE;
    private static final int RED = TideTablePainters.RED;
    private static final int NONE = TideTablePainters.NONE;

    private OrderEdgeTest() {
    }

    static void run() {
        noOrder();
        oneOrder();
        everySequenceOfSixOrders();
        jobsFollowTheOrders();
        firstAndLastDay();
        orderForTheJobsPier();
        stopsAtTheEndOfAJob();
        stopsInTheMiddle();
        sixJobsAndAnotherInOneCall();
        secondJobBeginsWithoutPaint();
        jobStaysOverDays();
        boardIsWipedWhenTheJobBegins();
        giveUpWithAllOrOneLine();
        dripsOfEachLadder();
        dripsOfThreeLines();
        dripsAreThoseOfTheBoard();
        blotOnTouchedUpLine();
        blotOnTheLineItself();
        smallestNumberIsTouchedUp();
        touchUpDuringTheJob();
    }

    private static void noOrder() {
        TideTablePainters x = Scenes.piersAndPaint(6, 0);
        Checks.same("P30 none", x.waitingOrders(), 0);
        Checks.same("P32 none", x.jobPier(), NONE);
        Checks.same("P33 none", x.linesToPaint(), 0);
        Checks.same("P34 none", x.paint(50), 0);
        Checks.fails("P31 none", Checks.NO_ELEMENT, () -> x.waitingPier(0));
    }

    private static void oneOrder() {
        TideTablePainters x = Scenes.piers(6, 0);
        Checks.same("P28 the only one", x.order(5, 99999), 0);
        Checks.same("P30 one", x.waitingOrders(), 1);
        Checks.same("P31 one", x.waitingPier(0), 5);
        Checks.fails("P31 no second", Checks.NO_ELEMENT, () -> x.waitingPier(1));
        Checks.same("P29 its day", x.cancelOrder(5), 99999);
        Checks.same("P30 none", x.waitingOrders(), 0);
    }

    /** Days 5, 5, 5, 0, 99999, 5 and rungs 0, 9, 9, 0, 9, 0 of the piers: they come as 3, 1, 2, 0, 5, 4. */
    private static TideTablePainters sixPiers() {
        TideTablePainters x = new TideTablePainters();
        for (int rungs : new int[] {0, 9, 9, 0, 9, 0}) {
            x.addPier(100, 300, 400, 200, rungs);
        }
        return x;
    }

    private static final int[] DAYS = {5, 5, 5, 0, 99999, 5};
    private static final int[] SEQUENCE = {3, 1, 2, 0, 5, 4};
    private static final int[] PLACES = {3, 1, 2, 0, 5, 4};

    /** "The smallest day, .. the most rungs, .. the smallest number", in whatever sequence they are ordered. */
    private static void everySequenceOfSixOrders() {
        int tried = 0;
        for (int code = 0; code < 46656; code++) {
            int[] piers = new int[6];
            int seen = 0;
            for (int i = 0, rest = code; i < 6; i++, rest /= 6) {
                piers[i] = rest % 6;
                seen |= 1 << piers[i];
            }
            if (seen == 63) {
                orderInSequence(piers);
                tried++;
            }
        }
        Checks.same("P28 sequences", tried, 720);
    }

    private static void orderInSequence(int[] piers) {
        TideTablePainters x = sixPiers();
        int waiting = 0;
        for (int pier : piers) {
            // The orders with a smaller place that wait already.
            int due = Integer.bitCount(waiting & (1 << PLACES[pier]) - 1);
            Checks.same("P28 pier " + pier, x.order(pier, DAYS[pier]), due);
            waiting |= 1 << PLACES[pier];
        }
        Checks.same("P30 six", x.waitingOrders(), 6);
        for (int place = 0; place < 6; place++) {
            Checks.same("P31 place " + place, x.waitingPier(place), SEQUENCE[place]);
        }
    }

    /** "When the painter begins a job, the first waiting order is removed". */
    private static void jobsFollowTheOrders() {
        TideTablePainters x = sixPiers();
        x.deliverTin(BLUE, 999);
        x.deliverTin(RED, 999);
        for (int i = 5; i >= 0; i--) {
            x.order(i, DAYS[i]);
        }
        for (int i = 0; i < 6; i++) {
            x.paint(1);
            Checks.same("P32 job " + i, x.jobPier(), SEQUENCE[i]);
            Checks.same("P37 its day", x.boardDay(SEQUENCE[i]), DAYS[SEQUENCE[i]]);
            Checks.same("P30 the others wait", x.waitingOrders(), 5 - i);
            x.giveUpJob();
        }
    }

    /** "Day: 0 to 99999", also for days that are over. */
    private static void firstAndLastDay() {
        TideTablePainters x = Scenes.piersAndPaint(2, 0);
        x.passDays(60);
        Checks.same("P28 the last day", x.order(0, 99999), 0);
        Checks.same("P28 a day that is over", x.order(1, 0), 0);
        Checks.same("P34 both", x.paint(50), 4 + 3);
        Checks.same("P37 the last day", x.boardDay(0), 99999);
        Checks.same("P37 the first day", x.boardDay(1), 0);
        int[] minutes = {355, 727, 1100};
        for (int i = 0; i < 3; i++) {
            Checks.same("P40 the last day", x.lineMinute(0, i), minutes[i]);
            Checks.same("P40 as in its table", x.lineMinute(0, i), x.waterMinute(0, 99999, i));
        }
        // Age 94: r is 35, the distance 24, the range 400 - 165, its half 117.
        Checks.same("P41 the last day, high", x.lineHeight(0, 0), 417);
        Checks.same("P41 the last day, low", x.lineHeight(0, 1), 183);
        Checks.fails("P28 the day behind it", Checks.ILLEGAL_ARGUMENT, () -> x.order(0, 100000));
    }

    /** "At most one waiting order for a pier": the job is none, so there may be a job and six orders. */
    private static void orderForTheJobsPier() {
        TideTablePainters x = Scenes.piersAndPaint(6, 0);
        x.order(3, 0);
        x.paint(1);
        for (int i = 0; i < 6; i++) {
            Checks.same("P28 six orders and a job", x.order(i, 0), i);
        }
        Checks.same("P30 six", x.waitingOrders(), 6);
        Checks.fails("P28 no second one", Checks.ILLEGAL_STATE, () -> x.order(3, 1));
        Checks.same("P29 the order, not the job", x.cancelOrder(3), 0);
        Checks.same("P32 the job stays", x.jobPier(), 3);
        Checks.same("P33 the job stays", x.linesToPaint(), 3);
        x.order(3, 5);
        Checks.same("P34 the job to its end", x.paint(3), 3);
        Checks.same("P37 the day of the job", x.boardDay(3), 0);
        Checks.same("P34 the other five boards, and its own again", x.paint(50), 20 + 3);
        Checks.same("P37 the day of the order", x.boardDay(3), 5);
    }

    /** "This ends when so many lines have been painted": no job begins behind the last one. */
    private static void stopsAtTheEndOfAJob() {
        TideTablePainters x = Scenes.piersAndPaint(2, 0);
        x.order(0, 0);
        x.order(1, 0);
        Checks.same("P34 just the job", x.paint(4), 4);
        Checks.same("P32 none", x.jobPier(), NONE);
        Checks.same("P33 none", x.linesToPaint(), 0);
        Checks.same("P30 the other waits", x.waitingOrders(), 1);
        Checks.same("P37 its board is empty", x.boardDay(1), NONE);
        Checks.same("P34 one more line", x.paint(1), 1);
        Checks.same("P32 the other", x.jobPier(), 1);
        Checks.same("P30 none waits", x.waitingOrders(), 0);
    }

    private static void stopsInTheMiddle() {
        TideTablePainters x = Scenes.piersAndPaint(1, 0);
        x.order(0, 0);
        int[] masks = {7, 3, 1, 0};
        for (int i = 0; i < 4; i++) {
            Checks.same("P32 before line " + i, x.jobPier(), i == 0 ? NONE : 0);
            Checks.same("P34 one line", x.paint(1), 1);
            Checks.same("P33 left", x.linesToPaint(), 3 - i);
            Checks.same("P43 from the last up", x.unreadableLines(0), masks[i]);
        }
        Checks.same("P32 ended", x.jobPier(), NONE);
        Checks.same("P34 no more", x.paint(1), 0);
    }

    /** "1 to 50" lines: more than 28 are never there in one call. */
    private static void sixJobsAndAnotherInOneCall() {
        TideTablePainters x = Scenes.piersAndPaint(6, 0);
        x.order(5, 0);
        x.paint(1);
        for (int i = 0; i < 6; i++) {
            x.order(i, 0);
        }
        Checks.same("P34 three and six times four", x.paint(50), 27);
        Checks.same("P30 none waits", x.waitingOrders(), 0);
        Checks.same("P32 no job", x.jobPier(), NONE);
        Checks.same("P25 28 lines", x.paintUsed(), 140);
    }

    /** "In the last case the job stays, even if it has just begun": behind another job in the same call. */
    private static void secondJobBeginsWithoutPaint() {
        TideTablePainters x = Scenes.piers(3, 0);
        x.deliverTin(BLUE, 10);
        x.deliverTin(RED, 10);
        for (int i = 0; i < 3; i++) {
            x.order(i, 0);
        }
        Checks.same("P34 the first board", x.paint(50), 4);
        Checks.same("P32 the second job has begun", x.jobPier(), 1);
        Checks.same("P33 none of its lines is painted", x.linesToPaint(), 4);
        Checks.same("P37 its board has a day", x.boardDay(1), 0);
        Checks.same("P38 and lines", x.lineCount(1), 4);
        Checks.same("P30 the third waits", x.waitingOrders(), 1);
        Checks.same("P34 the third does not go ahead", x.paint(50), 0);
        Checks.same("P35 all stay blank", x.giveUpJob(), 4);
        Checks.same("P34 now the third begins", x.paint(1), 0);
        Checks.same("P32 the third", x.jobPier(), 2);
    }

    private static void jobStaysOverDays() {
        TideTablePainters x = Scenes.piersAndPaint(1, 0);
        x.order(0, 0);
        x.paint(3);
        x.passDays(60);
        Checks.same("P32 the job stays", x.jobPier(), 0);
        Checks.same("P33 one line", x.linesToPaint(), 1);
        Checks.same("P43 one blank, three faded", x.unreadableLines(0), 15);
        Checks.same("P34 line 0", x.paint(50), 1);
        Checks.same("P43 three faded", x.unreadableLines(0), 14);
        Checks.same("P32 ended", x.jobPier(), NONE);
    }

    /** "The board of its pier is for the day of the order then, has 0 drips and .. BLANK lines". */
    private static void boardIsWipedWhenTheJobBegins() {
        TideTablePainters x = Scenes.piers(1, 4);
        x.deliverTin(BLUE, 18);
        x.deliverTin(RED, 18);
        x.order(0, 0);
        x.paint(50);
        Checks.same("P42 16 - 12", x.dripsOf(0), 4);
        Checks.same("P43 line 3 is blotted", x.unreadableLines(0), 8);
        x.order(0, 5);
        Checks.same("P37 not yet", x.boardDay(0), 0);
        Checks.same("P34 no paint", x.paint(1), 0);
        Checks.same("P37 begun", x.boardDay(0), 5);
        Checks.same("P38 begun", x.lineCount(0), 3);
        Checks.same("P42 begun", x.dripsOf(0), 0);
        Checks.same("P43 begun", x.unreadableLines(0), 7);
        for (int i = 0; i < 3; i++) {
            Checks.same("P39 begun", x.lineState(0, i), TideTablePainters.BLANK);
        }
        Checks.fails("P39 line 3 is gone", Checks.NO_INDEX, () -> x.lineState(0, 3));
        Checks.fails("P36 no blotted line is left", Checks.NO_ELEMENT, () -> x.touchUp(0));
        Checks.same("P25 those wiped off included", x.paintUsed(), 20);
    }

    /** "Returns the number of lines that stay BLANK": all and one; when none is left, the job has ended. */
    private static void giveUpWithAllOrOneLine() {
        for (int painted = 0; painted < 4; painted++) {
            TideTablePainters x = Scenes.piers(1, 0);
            x.deliverTin(RED, 5 * ((painted + 1) / 2) + 1);
            x.deliverTin(BLUE, 5 * (painted / 2) + 1);
            x.order(0, 0);
            Checks.same("P34 so many", x.paint(50), painted);
            Checks.same("P33 the others", x.linesToPaint(), 4 - painted);
            Checks.same("P35 the others", x.giveUpJob(), 4 - painted);
            Checks.same("P33 no job", x.linesToPaint(), 0);
            Checks.same("P43 the board stays", x.unreadableLines(0), (1 << 4 - painted) - 1);
            Checks.same("P37 the board stays", x.boardDay(0), 0);
        }
        TideTablePainters all = Scenes.piersAndPaint(1, 0);
        all.order(0, 0);
        all.paint(4);
        Checks.fails("P35 no line is left", Checks.ILLEGAL_STATE, () -> all.giveUpJob());
    }

    /** "If they are 12 or more then, they decrease by 12": after each line, and the lines blotted at the end. */
    private static void dripsOfEachLadder() {
        int[][] dripsAndMask = {{0, 0, 0, 0, 0}, {1, 2, 3, 4, 0}, {2, 4, 6, 8, 0}, {3, 6, 9, 0, 8}, {4, 8, 0, 4, 8},
            {5, 10, 3, 8, 8}, {6, 0, 6, 0, 12}, {7, 2, 9, 4, 12}, {8, 4, 0, 8, 12}, {9, 6, 3, 0, 14}};
        for (int rungs = 0; rungs <= 9; rungs++) {
            TideTablePainters x = Scenes.piersAndPaint(1, rungs);
            x.order(0, 0);
            for (int i = 0; i < 4; i++) {
                x.paint(1);
                Checks.same("P42 rungs " + rungs + " line " + (3 - i), x.dripsOf(0), dripsAndMask[rungs][i]);
            }
            Checks.same("P43 rungs " + rungs, x.unreadableLines(0), dripsAndMask[rungs][4]);
            for (int line = 0; line < 4; line++) {
                int due = (dripsAndMask[rungs][4] >> line & 1) == 1
                        ? TideTablePainters.BLOTTED : TideTablePainters.READABLE;
                Checks.same("P39 rungs " + rungs + " line " + line, x.lineState(0, line), due);
            }
            Checks.same("P26 the drips of the paint are not lost", x.paintDripped(), 4 * rungs);
        }
    }

    private static void dripsOfThreeLines() {
        int[][] dripsAndMask = {{3, 9, 0}, {4, 0, 4}, {5, 3, 4}, {6, 6, 4}, {8, 0, 6}, {9, 3, 6}};
        for (int[] d : dripsAndMask) {
            TideTablePainters x = Scenes.piersAndPaint(1, d[0]);
            x.order(0, 5);
            Checks.same("P34 three lines", x.paint(50), 3);
            Checks.same("P42 rungs " + d[0], x.dripsOf(0), d[1]);
            Checks.same("P43 rungs " + d[0], x.unreadableLines(0), d[2]);
        }
    }

    /** "A board has a number of drips": those of one pier do not blot the board of another. */
    private static void dripsAreThoseOfTheBoard() {
        TideTablePainters x = Scenes.piersAndPaint(2, 6);
        x.order(0, 0);
        x.paint(1);
        x.giveUpJob();
        x.order(1, 0);
        x.paint(1);
        Checks.same("P42 pier 0", x.dripsOf(0), 6);
        Checks.same("P42 pier 1", x.dripsOf(1), 6);
        Checks.same("P43 pier 0", x.unreadableLines(0), 7);
        Checks.same("P43 pier 1", x.unreadableLines(1), 7);
    }

    /** "The READABLE line with the greatest number becomes BLOTTED": again, when it was touched up. */
    private static void blotOnTouchedUpLine() {
        TideTablePainters x = Scenes.piersAndPaint(1, 9);
        x.order(0, 0);
        x.paint(2);
        Checks.same("P39 blotted", x.lineState(0, 3), TideTablePainters.BLOTTED);
        Checks.same("P36 touched up", x.touchUp(0), 3);
        Checks.same("P42 no drips by that", x.dripsOf(0), 6);
        x.paint(1);
        Checks.same("P39 blotted again", x.lineState(0, 3), TideTablePainters.BLOTTED);
        Checks.same("P39 the next one stays", x.lineState(0, 2), TideTablePainters.READABLE);
    }

    private static void blotOnTheLineItself() {
        TideTablePainters x = Scenes.piersAndPaint(1, 6);
        x.order(0, 0);
        x.paint(3);
        x.passDays(7);
        Checks.same("P43 blank, faded, faded, blotted", x.unreadableLines(0), 15);
        Checks.same("P34 line 0", x.paint(1), 1);
        Checks.same("P39 it is the only readable one", x.lineState(0, 0), TideTablePainters.BLOTTED);
        Checks.same("P39 faded stays", x.lineState(0, 2), TideTablePainters.FADED);
        Checks.same("P39 blotted stays", x.lineState(0, 3), TideTablePainters.BLOTTED);
        Checks.same("P42 none", x.dripsOf(0), 0);
        Checks.same("P32 the job has ended", x.jobPier(), NONE);
    }

    /** "Touches up the BLOTTED or FADED line with the smallest number", whichever of both it is. */
    private static void smallestNumberIsTouchedUp() {
        TideTablePainters x = Scenes.piersAndPaint(1, 9);
        x.order(0, 0);
        x.paint(2);
        x.giveUpJob();
        x.passDays(7);
        Checks.same("P39 faded", x.lineState(0, 2), TideTablePainters.FADED);
        Checks.same("P39 blotted", x.lineState(0, 3), TideTablePainters.BLOTTED);
        Checks.same("P36 the faded one, no blank one", x.touchUp(0), 2);
        Checks.same("P36 the blotted one", x.touchUp(0), 3);
        Checks.fails("P36 no more", Checks.NO_ELEMENT, () -> x.touchUp(0));
        TideTablePainters y = Scenes.piersAndPaint(1, 6);
        y.order(0, 0);
        y.paint(4);
        y.passDays(7);
        int[] states = {TideTablePainters.FADED, TideTablePainters.FADED, TideTablePainters.BLOTTED,
            TideTablePainters.BLOTTED};
        for (int line = 0; line < 4; line++) {
            Checks.same("P39 line " + line, y.lineState(0, line), states[line]);
        }
        for (int line = 0; line < 4; line++) {
            Checks.same("P36 from 0 to 3", y.touchUp(0), line);
            Checks.same("P39 readable", y.lineState(0, line), TideTablePainters.READABLE);
        }
        Checks.fails("P36 no fifth", Checks.NO_ELEMENT, () -> y.touchUp(0));
        Checks.same("P43 all readable", y.unreadableLines(0), 0);
    }

    private static void touchUpDuringTheJob() {
        TideTablePainters x = Scenes.piersAndPaint(1, 0);
        x.order(0, 0);
        x.paint(1);
        Checks.fails("P36 blank and readable lines", Checks.NO_ELEMENT, () -> x.touchUp(0));
        x.passDays(7);
        Checks.same("P36 the painted one", x.touchUp(0), 3);
        Checks.same("P33 the blank ones stay", x.linesToPaint(), 3);
        Checks.same("P32 the job stays", x.jobPier(), 0);
        Checks.same("P34 on to the end", x.paint(50), 3);
        Checks.same("P43 all readable", x.unreadableLines(0), 0);
    }
}
