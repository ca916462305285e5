/** Promises 37 to 45: boards. */
final class BoardTest {
    private static final int BLUE = TideTablePainters.BLUE;
    private static final int RED = TideTablePainters.RED;
    private static final int NONE = TideTablePainters.NONE;

    private BoardTest() {
    }

    static void run() {
        emptyBoard();
        linesOfABoard();
        correctionsDoNotChangeLines();
        tableIsTakenWhenTheJobBegins();
        wrongPier();
        fading();
        right();
        rightNeedsTheSameWaters();
        rightBoards();
    }

    private static TideTablePainters withPaint(int delay, int rungs) {
        TideTablePainters x = new TideTablePainters();
        x.addPier(delay, 300, 400, 200, rungs);
        x.deliverTin(BLUE, 999);
        x.deliverTin(RED, 999);
        return x;
    }

    private static void emptyBoard() {
        TideTablePainters x = withPaint(100, 0);
        Checks.same("P37 empty", x.boardDay(0), NONE);
        Checks.same("P38 empty", x.lineCount(0), 0);
        Checks.same("P42 empty", x.dripsOf(0), 0);
        Checks.same("P43 empty", x.unreadableLines(0), 0);
        Checks.no("P44 empty", x.isRight(0));
        Checks.fails("P39 empty", Checks.NO_INDEX, () -> x.lineState(0, 0));
        Checks.fails("P40 empty", Checks.NO_INDEX, () -> x.lineMinute(0, 0));
        Checks.fails("P41 empty", Checks.NO_INDEX, () -> x.lineHeight(0, 0));
        x.order(0, 0);
        Checks.same("P37 an order does not change it", x.boardDay(0), NONE);
    }

    private static void linesOfABoard() {
        TideTablePainters x = withPaint(100, 3);
        x.order(0, 5);
        x.paint(2);
        Checks.same("P37 day", x.boardDay(0), 5);
        Checks.same("P38 three", x.lineCount(0), 3);
        Checks.same("P39 blank", x.lineState(0, 0), TideTablePainters.BLANK);
        Checks.same("P39 readable", x.lineState(0, 1), TideTablePainters.READABLE);
        Checks.same("P40 low", x.lineMinute(0, 1), 722);
        Checks.same("P40 high", x.lineMinute(0, 2), 1095);
        Checks.same("P41 low", x.lineHeight(0, 1), 169);
        Checks.same("P41 high", x.lineHeight(0, 2), 431);
        Checks.same("P42 drips", x.dripsOf(0), 6);
        Checks.same("P43 blank line 0", x.unreadableLines(0), 1);
        Checks.fails("P40 blank", Checks.NO_ELEMENT, () -> x.lineMinute(0, 0));
        Checks.fails("P41 blank", Checks.NO_ELEMENT, () -> x.lineHeight(0, 0));
        for (int line : new int[] {-1, 3, Integer.MIN_VALUE, Integer.MAX_VALUE}) {
            Checks.fails("P39 line", Checks.NO_INDEX, () -> x.lineState(0, line));
            Checks.fails("P40 line", Checks.NO_INDEX, () -> x.lineMinute(0, line));
            Checks.fails("P41 line", Checks.NO_INDEX, () -> x.lineHeight(0, line));
        }
        x.giveUpJob();
        x.order(0, 0);
        x.paint(4);
        Checks.same("P38 four", x.lineCount(0), 4);
        Checks.same("P37 the new day", x.boardDay(0), 0);
        Checks.same("P39 blotted lines can be read out", x.lineState(0, 3), TideTablePainters.BLOTTED);
        Checks.same("P40 blotted", x.lineMinute(0, 3), 1217);
        Checks.same("P41 blotted", x.lineHeight(0, 3), 100);
        Checks.same("P43 blotted", x.unreadableLines(0), 8);
    }

    private static void correctionsDoNotChangeLines() {
        TideTablePainters x = withPaint(100, 0);
        x.order(0, 0);
        x.paint(1);
        x.report(0, 0, 20);
        x.paint(3);
        Checks.same("P40 painted before", x.lineMinute(0, 3), 1217);
        Checks.same("P40 painted after", x.lineMinute(0, 0), 100);
    }

    private static void tableIsTakenWhenTheJobBegins() {
        TideTablePainters x = withPaint(0, 0);
        x.order(0, 0);
        x.report(0, 0, -1);
        x.paint(50);
        Checks.same("P38 the high water at -1 is not there", x.lineCount(0), 3);
        Checks.same("P40 the low water is first", x.lineMinute(0, 0), 371);
        Checks.same("P41 the low water is first", x.lineHeight(0, 0), 100);
        Checks.same("P23 one high water took blue paint", x.paintLeft(BLUE), 994);
        Checks.same("P23 two low waters took red paint", x.paintLeft(RED), 989);
    }

    private static void wrongPier() {
        TideTablePainters x = withPaint(100, 0);
        for (int i : new int[] {-1, 1, 6, Integer.MIN_VALUE, Integer.MAX_VALUE}) {
            Checks.fails("P37 pier", Checks.NO_INDEX, () -> x.boardDay(i));
            Checks.fails("P38 pier", Checks.NO_INDEX, () -> x.lineCount(i));
            Checks.fails("P39 pier", Checks.NO_INDEX, () -> x.lineState(i, 0));
            Checks.fails("P40 pier", Checks.NO_INDEX, () -> x.lineMinute(i, 0));
            Checks.fails("P41 pier", Checks.NO_INDEX, () -> x.lineHeight(i, 0));
            Checks.fails("P42 pier", Checks.NO_INDEX, () -> x.dripsOf(i));
            Checks.fails("P43 pier", Checks.NO_INDEX, () -> x.unreadableLines(i));
            Checks.fails("P44 pier", Checks.NO_INDEX, () -> x.isRight(i));
        }
    }

    private static void fading() {
        TideTablePainters x = withPaint(0, 0);
        x.addPier(0, 0, 0, 0, 0);
        x.order(0, 7);
        x.order(1, 60);
        x.paint(2);
        x.passDays(1);
        x.paint(6);
        x.passDays(5);
        Checks.same("P5 six days", x.unreadableLines(0), 0);
        x.passDays(1);
        Checks.same("P5 seven days", x.unreadableLines(0), 6);
        Checks.same("P39 faded", x.lineState(0, 2), TideTablePainters.FADED);
        Checks.same("P40 faded", x.lineMinute(0, 2), 1095);
        Checks.same("P5 the other pier, six days", x.unreadableLines(1), 0);
        x.passDays(60);
        Checks.same("P5 all", x.unreadableLines(0), 7);
        Checks.same("P5 both piers", x.unreadableLines(1), (1 << x.lineCount(1)) - 1);
    }

    private static void right() {
        TideTablePainters x = withPaint(100, 3);
        x.order(0, 1);
        x.paint(3);
        x.passDays(1);
        Checks.no("P44 a line is blank", x.isRight(0));
        x.paint(1);
        Checks.no("P44 a line is blotted", x.isRight(0));
        x.touchUp(0);
        Checks.yes("P44 right", x.isRight(0));
        x.passDays(1);
        Checks.no("P44 for another day", x.isRight(0));
        x.order(0, 3);
        x.paint(50);
        x.touchUp(0);
        Checks.no("P44 not yet", x.isRight(0));
        x.passDays(1);
        Checks.yes("P44 now", x.isRight(0));
    }

    private static void rightNeedsTheSameWaters() {
        TideTablePainters x = withPaint(100, 0);
        x.order(0, 0);
        x.paint(50);
        Checks.yes("P44 right", x.isRight(0));
        x.report(0, 0, 1);
        Checks.no("P44 a minute late", x.isRight(0));
        x.report(0, 0, 0);
        Checks.yes("P44 right again", x.isRight(0));
        x.report(1, 0, 1);
        Checks.yes("P44 half a minute is rounded", x.isRight(0));
        TideTablePainters y = withPaint(0, 0);
        y.order(0, 0);
        y.paint(50);
        y.report(0, 0, -1);
        Checks.no("P44 one water fewer", y.isRight(0));
        TideTablePainters z = withPaint(0, 0);
        z.report(0, 0, -1);
        z.order(0, 0);
        z.paint(50);
        Checks.yes("P44 right with a correction", z.isRight(0));
        z.passDays(10);
        z.order(0, 10);
        z.paint(50);
        Checks.yes("P44 the report is gone", z.isRight(0));
    }

    private static void rightBoards() {
        TideTablePainters x = new TideTablePainters();
        for (int i = 0; i < 6; i++) {
            x.addPier(100 * i, 300, 400, 200, 0);
        }
        x.deliverTin(BLUE, 999);
        x.deliverTin(RED, 999);
        Checks.same("P45 none", x.rightBoards(), 0);
        for (int i = 0; i < 6; i++) {
            x.order(i, i == 3 ? 1 : 0);
        }
        Checks.same("P34 all boards", x.paint(50), linesOfAll(x));
        Checks.same("P45 all but pier 3", x.rightBoards(), 63 - 8);
        x.report(0, 1, 30);
        Checks.same("P45 nor pier 1", x.rightBoards(), 63 - 8 - 2);
        x.passDays(1);
        Checks.same("P45 only pier 3", x.rightBoards(), 8);
    }

    private static int linesOfAll(TideTablePainters x) {
        int lines = 0;
        for (int i = 0; i < 6; i++) {
            lines += x.lineCount(i);
        }
        return lines;
    }
}
