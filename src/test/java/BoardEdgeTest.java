/** The sentences of the document that name a boundary case of boards, their lines and their age. */
final class BoardEdgeTest {
    private static final int BLUE = TideTablePainters.BLUE;
    private static final int RED = TideTablePainters.RED;
    private static final int NONE = TideTablePainters.NONE;

    private BoardEdgeTest() {
    }

    static void run() {
        emptyBoards();
        eachPierHasItsBoard();
        sixDaysAndSeven();
        sevenDaysInOneCallOrMore();
        linesPaintedOnDifferentDays();
        touchedUpOnTheSixthDay();
        touchedUpOnTheSeventhDay();
        blottedAndBlankLinesDoNotFade();
        newBoardFadesByItsOwnDays();
        unreadableMasks();
        dayOfTheBoardIsThePresentOne();
        dayZero();
        oneUnreadableLineIsEnough();
        minutesAndHeightsOfTheTable();
        masksOfRightBoards();
        noPierIsRight();
    }

    private static TideTablePainters painted(int rungs, int day) {
        TideTablePainters x = Scenes.piersAndPaint(1, rungs);
        x.order(0, day);
        x.paint(50);
        return x;
    }

    /** "Each pier has one board, which is empty at first": for all six. */
    private static void emptyBoards() {
        TideTablePainters x = Scenes.piers(6, 9);
        for (int pier = 0; pier < 6; pier++) {
            int p = pier;
            Checks.same("P37 empty", x.boardDay(p), NONE);
            Checks.same("P38 empty", x.lineCount(p), 0);
            Checks.same("P42 empty", x.dripsOf(p), 0);
            Checks.same("P43 empty", x.unreadableLines(p), 0);
            Checks.no("P44 empty", x.isRight(p));
            Checks.fails("P39 empty", Checks.NO_INDEX, () -> x.lineState(p, 0));
            Checks.fails("P40 empty", Checks.NO_INDEX, () -> x.lineMinute(p, 0));
            Checks.fails("P41 empty", Checks.NO_INDEX, () -> x.lineHeight(p, 0));
            Checks.fails("P36 empty", Checks.NO_ELEMENT, () -> x.touchUp(p));
        }
        Checks.same("P45 empty", x.rightBoards(), 0);
        x.passDays(60);
        Checks.same("P37 still empty", x.boardDay(5), NONE);
    }

    private static void eachPierHasItsBoard() {
        TideTablePainters x = Scenes.piersAndPaint(6, 0);
        for (int pier = 0; pier < 6; pier++) {
            x.order(pier, 10 + pier);
            x.paint(50);
        }
        for (int pier = 0; pier < 6; pier++) {
            Checks.same("P37 its own day", x.boardDay(pier), 10 + pier);
            Checks.same("P38 as its table", x.lineCount(pier), x.waterCount(pier, 10 + pier));
        }
    }

    /** "Was painted 7 days ago": not 6. */
    private static void sixDaysAndSeven() {
        TideTablePainters x = painted(0, 0);
        for (int day = 1; day <= 6; day++) {
            x.passDays(1);
            Checks.same("P5 day " + day, x.unreadableLines(0), 0);
        }
        x.passDays(1);
        Checks.same("P5 day 7", x.unreadableLines(0), 15);
        for (int line = 0; line < 4; line++) {
            Checks.same("P39 faded", x.lineState(0, line), TideTablePainters.FADED);
        }
        x.passDays(1);
        Checks.same("P5 day 8", x.unreadableLines(0), 15);
    }

    private static void sevenDaysInOneCallOrMore() {
        for (int days : new int[] {7, 8, 60}) {
            TideTablePainters x = painted(0, 0);
            x.passDays(days);
            Checks.same("P5 " + days + " days", x.unreadableLines(0), 15);
            Checks.same("P39 " + days + " days", x.lineState(0, 0), TideTablePainters.FADED);
        }
        TideTablePainters y = painted(0, 0);
        y.passDays(6);
        Checks.same("P5 six days at once", y.unreadableLines(0), 0);
        y.passDays(60);
        Checks.same("P5 from 6 over 7 to 66", y.unreadableLines(0), 15);
    }

    private static void linesPaintedOnDifferentDays() {
        TideTablePainters x = Scenes.piersAndPaint(1, 0);
        x.order(0, 0);
        for (int i = 0; i < 4; i++) {
            x.paint(1);
            x.passDays(1);
        }
        // Lines 3, 2, 1, 0 were painted on the days 0, 1, 2, 3; it is day 4.
        int[] masks = {0, 0, 8, 12, 14, 15, 15};
        for (int i = 0; i < masks.length; i++) {
            x.passDays(1);
            Checks.same("P5 day " + x.today(), x.unreadableLines(0), masks[i]);
        }
    }

    /** "Was painted (or touched up) 7 days ago": the later of both counts. */
    private static void touchedUpOnTheSixthDay() {
        TideTablePainters x = painted(4, 0);
        Checks.same("P43 line 3 is blotted", x.unreadableLines(0), 8);
        x.passDays(6);
        Checks.same("P36 on day 6", x.touchUp(0), 3);
        x.passDays(1);
        Checks.same("P5 the others were painted 7 days ago", x.unreadableLines(0), 7);
        x.passDays(5);
        Checks.same("P5 touched up 6 days ago", x.lineState(0, 3), TideTablePainters.READABLE);
        x.passDays(1);
        Checks.same("P5 touched up 7 days ago", x.lineState(0, 3), TideTablePainters.FADED);
    }

    private static void touchedUpOnTheSeventhDay() {
        TideTablePainters x = painted(0, 0);
        x.passDays(7);
        for (int line = 0; line < 4; line++) {
            Checks.same("P36 faded", x.touchUp(0), line);
        }
        Checks.same("P43 none", x.unreadableLines(0), 0);
        x.passDays(6);
        Checks.same("P5 six days later", x.unreadableLines(0), 0);
        x.passDays(1);
        Checks.same("P5 seven days later", x.unreadableLines(0), 15);
    }

    /** "Each line that is READABLE": no other one. */
    private static void blottedAndBlankLinesDoNotFade() {
        TideTablePainters x = Scenes.piersAndPaint(1, 6);
        x.order(0, 0);
        x.paint(2);
        for (int days : new int[] {6, 1, 1, 60}) {
            x.passDays(days);
            Checks.same("P5 blotted", x.lineState(0, 3), TideTablePainters.BLOTTED);
            Checks.same("P5 blank", x.lineState(0, 1), TideTablePainters.BLANK);
            Checks.same("P5 blank", x.lineState(0, 0), TideTablePainters.BLANK);
        }
        Checks.same("P5 readable", x.lineState(0, 2), TideTablePainters.FADED);
    }

    private static void newBoardFadesByItsOwnDays() {
        TideTablePainters x = painted(0, 0);
        x.passDays(6);
        x.order(0, 6);
        x.paint(50);
        x.passDays(6);
        Checks.same("P5 painted over six days ago", x.unreadableLines(0), 0);
        x.passDays(1);
        Checks.same("P5 painted over seven days ago", x.unreadableLines(0), (1 << x.lineCount(0)) - 1);
    }

    /** "Bit i stands for line i": none, each one, all, and no bit behind the last line. */
    private static void unreadableMasks() {
        Checks.same("P43 none of four", painted(0, 0).unreadableLines(0), 0);
        Checks.same("P43 none of three", painted(0, 5).unreadableLines(0), 0);
        TideTablePainters x = painted(0, 0);
        x.passDays(7);
        int[] masks = {15, 14, 12, 8, 0};
        for (int i = 0; i < 5; i++) {
            Checks.same("P43 four lines, touched up " + i, x.unreadableLines(0), masks[i]);
            if (i < 4) {
                x.touchUp(0);
            }
        }
        TideTablePainters three = painted(0, 5);
        three.passDays(7);
        Checks.same("P43 all of three", three.unreadableLines(0), 7);
    }

    /** "It is for the present day": not for the one before or behind it. */
    private static void dayOfTheBoardIsThePresentOne() {
        TideTablePainters x = painted(0, 3);
        boolean[] due = {false, false, false, true, false, false};
        for (int day = 0; day < due.length; day++) {
            Checks.same("P44 on day " + day, x.isRight(0) ? 1 : 0, due[day] ? 1 : 0);
            Checks.same("P45 on day " + day, x.rightBoards(), due[day] ? 1 : 0);
            x.passDays(1);
        }
    }

    private static void dayZero() {
        TideTablePainters x = painted(0, 0);
        Checks.yes("P44 on day 0", x.isRight(0));
        Checks.no("P44 an empty board is not for day 0", Scenes.piers(1, 0).isRight(0));
    }

    /** "All its lines are READABLE": none is BLANK, BLOTTED or FADED, neither line 0 nor the last. */
    private static void oneUnreadableLineIsEnough() {
        TideTablePainters blank = Scenes.piersAndPaint(1, 0);
        blank.order(0, 0);
        blank.paint(3);
        Checks.no("P44 line 0 is blank", blank.isRight(0));
        blank.paint(1);
        Checks.yes("P44 line 0 is painted", blank.isRight(0));
        TideTablePainters blotted = painted(3, 0);
        Checks.no("P44 line 3 is blotted", blotted.isRight(0));
        blotted.touchUp(0);
        Checks.yes("P44 line 3 is touched up", blotted.isRight(0));
        TideTablePainters faded = painted(0, 7);
        faded.passDays(7);
        Checks.no("P44 all are faded", faded.isRight(0));
        for (int i = 0; i < 3; i++) {
            faded.touchUp(0);
            Checks.no("P44 one is still faded", faded.isRight(0));
        }
        faded.touchUp(0);
        Checks.yes("P44 all are touched up", faded.isRight(0));
    }

    /** "They are the waters of the present tide table": a correction of one minute more or less is enough. */
    private static void minutesAndHeightsOfTheTable() {
        for (int minutes : new int[] {-60, -1, 1, 60}) {
            TideTablePainters x = painted(0, 0);
            x.report(0, 0, minutes);
            Checks.no("P44 corrected by " + minutes, x.isRight(0));
            x.report(0, 0, 0);
            Checks.yes("P44 corrected by 0", x.isRight(0));
        }
        // A fourth water comes at minute 0 or goes from there, the other three stay.
        TideTablePainters y = new TideTablePainters();
        y.addPier(0, 300, 400, 200, 0);
        y.deliverTin(BLUE, 999);
        y.deliverTin(RED, 999);
        y.report(0, 0, -1);
        y.order(0, 0);
        y.paint(50);
        Checks.yes("P44 three waters", y.isRight(0));
        y.report(0, 0, 0);
        Checks.no("P44 four waters", y.isRight(0));
    }

    /** "The set of the piers whose boards are right, as a bit mask": none, each one, all six. */
    private static void masksOfRightBoards() {
        for (int mask = 0; mask < 64; mask++) {
            TideTablePainters x = Scenes.piersAndPaint(6, 0);
            for (int pier = 0; pier < 6; pier++) {
                x.order(pier, (mask >> pier & 1) == 1 ? 0 : 1);
            }
            x.paint(50);
            Checks.same("P45 those for day 0", x.rightBoards(), mask);
            x.passDays(1);
            Checks.same("P45 those for day 1", x.rightBoards(), 63 - mask);
        }
    }

    private static void noPierIsRight() {
        TideTablePainters x = new TideTablePainters();
        Checks.same("P45 no pier", x.rightBoards(), 0);
        Checks.fails("P44 no pier", Checks.NO_INDEX, () -> x.isRight(0));
    }
}
