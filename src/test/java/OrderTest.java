/** Promises 28 to 36: orders and painting. */
final class OrderTest {
    private static final int BLUE = TideTablePainters.BLUE;
    private static final int RED = TideTablePainters.RED;
    private static final int NONE = TideTablePainters.NONE;
    private static final int MIN = Integer.MIN_VALUE;
    private static final int MAX = Integer.MAX_VALUE;

    private OrderTest() {
    }

    static void run() {
        sequenceOfOrders();
        sixOrders();
        cancel();
        wrongOrders();
        paintBoards();
        jobStaysWithoutPaint();
        jobIsNotAnOrder();
        wrongPaint();
        giveUp();
        touchUp();
        touchUpFails();
        blotsWhilePainting();
        fadedLinesAreNotBlotted();
        lineZeroIsBlotted();
    }

    private static TideTablePainters withPiers(int... rungs) {
        TideTablePainters x = new TideTablePainters();
        for (int r : rungs) {
            x.addPier(100, 300, 400, 200, r);
        }
        return x;
    }

    private static TideTablePainters withPaint(int... rungs) {
        TideTablePainters x = withPiers(rungs);
        x.deliverTin(BLUE, 999);
        x.deliverTin(RED, 999);
        return x;
    }

    private static void sequenceOfOrders() {
        TideTablePainters x = withPiers(2, 5, 2, 5, 9);
        Checks.same("P28 first", x.order(2, 7), 0);
        Checks.same("P28 smaller number", x.order(0, 7), 0);
        Checks.same("P28 more rungs, greater number", x.order(3, 7), 0);
        Checks.same("P28 more rungs, between", x.order(1, 7), 0);
        Checks.same("P28 greater day", x.order(4, 8), 4);
        Checks.same("P30 five", x.waitingOrders(), 5);
        int[] due = {1, 3, 0, 2, 4};
        for (int i = 0; i < 5; i++) {
            Checks.same("P31 place " + i, x.waitingPier(i), due[i]);
        }
        x.cancelOrder(4);
        Checks.same("P28 smaller day", x.order(4, 0), 0);
        x.cancelOrder(2);
        Checks.same("P28 last of a day", x.order(2, 7), 4);
        x.cancelOrder(3);
        Checks.same("P28 the same rungs, greater number", x.order(3, 7), 2);
        Checks.same("P28 days do not pass by orders", x.today(), 0);
    }

    private static void sixOrders() {
        TideTablePainters x = withPiers(0, 0, 0, 0, 0, 0);
        for (int i = 5; i >= 0; i--) {
            Checks.same("P28 before all others", x.order(i, 3), 0);
        }
        Checks.same("P30 six", x.waitingOrders(), 6);
        Checks.same("P31 the last", x.waitingPier(5), 5);
        Checks.fails("P31 seventh", Checks.NO_ELEMENT, () -> x.waitingPier(6));
    }

    private static void cancel() {
        TideTablePainters x = withPiers(0, 0);
        x.order(0, 99999);
        x.order(1, 0);
        Checks.same("P29 its day", x.cancelOrder(0), 99999);
        Checks.same("P30 one", x.waitingOrders(), 1);
        Checks.same("P31 the other", x.waitingPier(0), 1);
        Checks.fails("P29 twice", Checks.NO_ELEMENT, () -> x.cancelOrder(0));
        Checks.same("P29 day 0", x.cancelOrder(1), 0);
        Checks.same("P30 none", x.waitingOrders(), 0);
    }

    private static void wrongOrders() {
        TideTablePainters x = withPiers(0, 0);
        x.order(0, 5);
        for (int i : new int[] {-1, 2, MIN, MAX}) {
            Checks.fails("P28 pier", Checks.NO_INDEX, () -> x.order(i, 0));
            Checks.fails("P28 pier first", Checks.NO_INDEX, () -> x.order(i, -1));
            Checks.fails("P29 pier", Checks.NO_INDEX, () -> x.cancelOrder(i));
        }
        for (int day : new int[] {-1, 100000, MIN, MAX}) {
            Checks.fails("P28 day", Checks.ILLEGAL_ARGUMENT, () -> x.order(1, day));
            Checks.fails("P28 day before waiting", Checks.ILLEGAL_ARGUMENT, () -> x.order(0, day));
        }
        Checks.fails("P28 waiting", Checks.ILLEGAL_STATE, () -> x.order(0, 6));
        Checks.fails("P29 not waiting", Checks.NO_ELEMENT, () -> x.cancelOrder(1));
        for (int place : new int[] {-1, 1, 2, MIN, MAX}) {
            Checks.fails("P31 place", Checks.NO_ELEMENT, () -> x.waitingPier(place));
        }
        Checks.same("P28 nothing changed", x.waitingOrders(), 1);
        Checks.same("P28 its day stays", x.cancelOrder(0), 5);
        Checks.fails("P31 no order", Checks.NO_ELEMENT, () -> x.waitingPier(0));
    }

    private static void paintBoards() {
        TideTablePainters x = withPaint(0, 1);
        x.order(0, 5);
        x.order(1, 5);
        Checks.same("P32 before", x.jobPier(), NONE);
        Checks.same("P34 one line", x.paint(1), 1);
        Checks.same("P32 most rungs first", x.jobPier(), 1);
        Checks.same("P33 two of three", x.linesToPaint(), 2);
        Checks.same("P30 the order is gone", x.waitingOrders(), 1);
        Checks.same("P34 from the last line up", x.lineState(1, 2), TideTablePainters.READABLE);
        Checks.same("P34 the others are blank", x.unreadableLines(1), 3);
        Checks.same("P34 to the end", x.paint(2), 2);
        Checks.same("P32 the job has ended", x.jobPier(), NONE);
        Checks.same("P33 none", x.linesToPaint(), 0);
        Checks.same("P30 no job begins yet", x.waitingOrders(), 1);
        Checks.same("P34 until no order waits", x.paint(50), 3);
        Checks.same("P32 none", x.jobPier(), NONE);
        Checks.same("P34 nothing to do", x.paint(50), 0);
        x.order(0, 0);
        x.order(1, 0);
        Checks.same("P34 over two jobs", x.paint(5), 5);
        Checks.same("P32 the second", x.jobPier(), 0);
        Checks.same("P33 three of four", x.linesToPaint(), 3);
    }

    private static void jobStaysWithoutPaint() {
        TideTablePainters x = withPiers(3);
        x.deliverTin(RED, 20);
        x.order(0, 0);
        Checks.same("P34 no blue paint", x.paint(50), 1);
        Checks.same("P32 the job stays", x.jobPier(), 0);
        Checks.same("P33 three", x.linesToPaint(), 3);
        Checks.same("P34 still none", x.paint(1), 0);
        x.deliverTin(BLUE, 16);
        Checks.same("P34 goes on", x.paint(50), 3);
        TideTablePainters y = withPiers(3);
        y.order(0, 5);
        Checks.same("P34 no paint at all", y.paint(1), 0);
        Checks.same("P32 it stays though just begun", y.jobPier(), 0);
        Checks.same("P33 all lines", y.linesToPaint(), 3);
        Checks.same("P37 the board is begun", y.boardDay(0), 5);
        Checks.same("P43 all blank", y.unreadableLines(0), 7);
        Checks.same("P30 its order is gone", y.waitingOrders(), 0);
    }

    private static void jobIsNotAnOrder() {
        TideTablePainters x = withPaint(0, 0);
        x.order(1, 9);
        x.paint(1);
        Checks.fails("P29 a job is not cancelled", Checks.NO_ELEMENT, () -> x.cancelOrder(1));
        Checks.same("P28 ordered again while painted", x.order(1, 3), 0);
        x.order(0, 0);
        Checks.same("P34 the job goes first", x.paint(1), 1);
        Checks.same("P32 the job", x.jobPier(), 1);
        Checks.same("P37 its day", x.boardDay(1), 9);
    }

    private static void wrongPaint() {
        TideTablePainters x = withPaint(0);
        x.order(0, 0);
        for (int lines : new int[] {0, 51, -1, MIN, MAX}) {
            Checks.fails("P34 lines", Checks.ILLEGAL_ARGUMENT, () -> x.paint(lines));
        }
        Checks.same("P34 no job begun", x.jobPier(), NONE);
        Checks.fails("P35 no job", Checks.ILLEGAL_STATE, () -> x.giveUpJob());
    }

    private static void giveUp() {
        TideTablePainters x = withPaint(4);
        x.order(0, 0);
        x.paint(1);
        Checks.same("P35 three stay blank", x.giveUpJob(), 3);
        Checks.same("P32 none", x.jobPier(), NONE);
        Checks.same("P33 none", x.linesToPaint(), 0);
        Checks.same("P35 the board stays", x.unreadableLines(0), 7);
        Checks.same("P35 its drips stay", x.dripsOf(0), 4);
        Checks.same("P35 its day stays", x.boardDay(0), 0);
        Checks.fails("P35 twice", Checks.ILLEGAL_STATE, () -> x.giveUpJob());
        Checks.same("P34 it is not taken up again", x.paint(1), 0);
        x.order(0, 5);
        x.paint(1);
        Checks.same("P34 a new job wipes the drips", x.dripsOf(0), 4);
    }

    private static void touchUp() {
        TideTablePainters x = withPaint(0);
        x.order(0, 0);
        x.paint(4);
        Checks.fails("P36 all readable", Checks.NO_ELEMENT, () -> x.touchUp(0));
        x.passDays(7);
        int blue = x.paintLeft(BLUE);
        int red = x.paintLeft(RED);
        Checks.same("P36 smallest number", x.touchUp(0), 0);
        Checks.same("P36 high water is blue", x.paintLeft(BLUE), blue - 5);
        Checks.same("P36 next", x.touchUp(0), 1);
        Checks.same("P36 low water is red", x.paintLeft(RED), red - 5);
        Checks.same("P36 readable", x.unreadableLines(0), 12);
        x.report(0, 0, 60);
        Checks.same("P36 next", x.touchUp(0), 2);
        Checks.same("P36 the same minute", x.lineMinute(0, 2), 845);
        Checks.same("P36 the same height", x.lineHeight(0, 2), 500);
        x.passDays(6);
        Checks.same("P36 six days later", x.unreadableLines(0), 8);
        x.passDays(1);
        Checks.same("P36 seven days after it", x.unreadableLines(0), 15);
        Checks.same("P36 no drips", x.dripsOf(0), 0);
    }

    private static void touchUpFails() {
        TideTablePainters x = withPiers(4, 0);
        x.deliverTin(BLUE, 22);
        x.deliverTin(RED, 18);
        x.order(0, 0);
        x.paint(4);
        // 12 drips after three lines blotted line 3; 4 of blue and none of red are left.
        Checks.same("P36 blotted", x.lineState(0, 3), TideTablePainters.BLOTTED);
        Checks.fails("P36 no red paint", Checks.ILLEGAL_STATE, () -> x.touchUp(0));
        x.deliverTin(RED, 4);
        Checks.fails("P36 too little red paint", Checks.ILLEGAL_STATE, () -> x.touchUp(0));
        Checks.same("P36 nothing poured", x.paintPoured(), 0);
        Checks.same("P36 nothing used", x.paintUsed(), 20);
        x.deliverTin(RED, 5);
        Checks.same("P36 the older tin is poured", x.touchUp(0), 3);
        Checks.same("P27 poured", x.paintPoured(), 4);
        Checks.same("P22 emptied", x.tinCount(RED), 0);
        Checks.fails("P36 empty board", Checks.NO_ELEMENT, () -> x.touchUp(1));
        for (int i : new int[] {-1, 2, MIN, MAX}) {
            Checks.fails("P36 pier", Checks.NO_INDEX, () -> x.touchUp(i));
        }
        x.order(1, 0);
        x.paint(1);
        Checks.fails("P36 a blank line is not touched up", Checks.NO_ELEMENT, () -> x.touchUp(1));
    }

    private static void blotsWhilePainting() {
        TideTablePainters x = withPaint(9);
        x.order(0, 0);
        int[] drips = {9, 6, 3, 0};
        int[] unreadable = {7, 8 + 3, 8 + 4 + 1, 8 + 4 + 2};
        for (int i = 0; i < 4; i++) {
            x.paint(1);
            Checks.same("P42 after line " + i, x.dripsOf(0), drips[i]);
            Checks.same("P34 blotted after line " + i, x.unreadableLines(0), unreadable[i]);
        }
        Checks.same("P39 blotted", x.lineState(0, 3), TideTablePainters.BLOTTED);
        Checks.same("P39 blotted", x.lineState(0, 1), TideTablePainters.BLOTTED);
        Checks.same("P39 readable", x.lineState(0, 0), TideTablePainters.READABLE);
    }

    private static void fadedLinesAreNotBlotted() {
        TideTablePainters x = withPaint(6);
        x.order(0, 0);
        x.paint(1);
        x.passDays(7);
        Checks.same("P39 faded", x.lineState(0, 3), TideTablePainters.FADED);
        x.paint(1);
        Checks.same("P34 the line itself is blotted", x.lineState(0, 2), TideTablePainters.BLOTTED);
        Checks.same("P34 faded stays", x.lineState(0, 3), TideTablePainters.FADED);
        Checks.same("P42 12 drips went", x.dripsOf(0), 0);
        x.passDays(7);
        Checks.same("P5 blotted lines do not fade", x.lineState(0, 2), TideTablePainters.BLOTTED);
        Checks.same("P5 blank lines do not fade", x.lineState(0, 0), TideTablePainters.BLANK);
        Checks.same("P36 during the job", x.touchUp(0), 2);
        Checks.same("P33 the job goes on", x.linesToPaint(), 2);
        Checks.same("P34 to its end", x.paint(50), 2);
    }

    private static void lineZeroIsBlotted() {
        TideTablePainters x = withPaint(3);
        x.order(0, 0);
        x.paint(3);
        x.passDays(7);
        Checks.same("P34 the last line", x.paint(50), 1);
        Checks.same("P34 the only readable line is blotted", x.lineState(0, 0), TideTablePainters.BLOTTED);
        Checks.same("P42 no drips are left", x.dripsOf(0), 0);
        Checks.same("P36 it comes before faded lines", x.touchUp(0), 0);
    }
}
