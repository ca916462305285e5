/** The sentences of the document that name a boundary case of tins and of taking paint from them. */
final class PaintEdgeTest {
    private static final int BLUE = TideTablePainters.BLUE;
    private static final int RED = TideTablePainters.RED;

    private PaintEdgeTest() {
    }

    static void run() {
        noTin();
        smallestAndGreatestTin();
        twelveTins();
        placeAfterEmptying();
        placeAfterPouring();
        exactlyEnough();
        oneTooFew();
        oneMoreThanEnough();
        sumIsNotEnough();
        oldestThatContainsIt();
        onlyOlderTinsArePoured();
        lastOfTwelve();
        leastAndGreatestAmount();
        touchingUpTakesFive();
        touchingUpPours();
        coloursAreApart();
        allLinesFromOneTin();
    }

    /** A pier with so many rungs whose board is ordered for day 0: blue, red, blue, red from line 0 on. */
    private static TideTablePainters ordered(int rungs, int... redTins) {
        TideTablePainters x = Scenes.piers(1, rungs);
        x.order(0, 0);
        for (int millilitres : redTins) {
            x.deliverTin(RED, millilitres);
        }
        return x;
    }

    private static void red(String what, TideTablePainters x, int tins, int left, int oldest, int poured) {
        Checks.same("P22 " + what, x.tinCount(RED), tins);
        Checks.same("P23 " + what, x.paintLeft(RED), left);
        if (tins > 0) {
            Checks.same("P24 " + what, x.oldestTin(RED), oldest);
        } else {
            Checks.fails("P24 " + what, Checks.NO_ELEMENT, () -> x.oldestTin(RED));
        }
        Checks.same("P27 " + what, x.paintPoured(), poured);
    }

    private static void noTin() {
        TideTablePainters x = ordered(0);
        red("no tin", x, 0, 0, 0, 0);
        Checks.same("P34 no tin", x.paint(1), 0);
        Checks.same("P25 no tin", x.paintUsed(), 0);
        Checks.same("P26 no tin", x.paintDripped(), 0);
    }

    /** "1 to 999" millilitres. */
    private static void smallestAndGreatestTin() {
        TideTablePainters x = ordered(0);
        Checks.same("P21 smallest", x.deliverTin(RED, 1), 1);
        red("smallest", x, 1, 1, 1, 0);
        Checks.same("P21 greatest", x.deliverTin(RED, 999), 2);
        red("both", x, 2, 1000, 1, 0);
        x.paint(1);
        red("the smallest is poured", x, 1, 994, 994, 1);
    }

    /** "At most 12 of each colour". */
    private static void twelveTins() {
        TideTablePainters x = new TideTablePainters();
        for (int i = 1; i <= 12; i++) {
            Checks.same("P21 red", x.deliverTin(RED, 999), i);
            Checks.same("P21 blue", x.deliverTin(BLUE, 1), i);
        }
        Checks.fails("P21 thirteenth red", Checks.ILLEGAL_STATE, () -> x.deliverTin(RED, 999));
        Checks.fails("P21 thirteenth blue", Checks.ILLEGAL_STATE, () -> x.deliverTin(BLUE, 1));
        red("twelve", x, 12, 12 * 999, 999, 0);
        Checks.same("P23 twelve of 1", x.paintLeft(BLUE), 12);
    }

    private static void placeAfterEmptying() {
        TideTablePainters x = ordered(0, 5, 7, 7, 7, 7, 7, 7, 7, 7, 7, 7, 7);
        Checks.fails("P21 full", Checks.ILLEGAL_STATE, () -> x.deliverTin(RED, 9));
        x.paint(1);
        red("the oldest is emptied", x, 11, 77, 7, 0);
        Checks.same("P21 there is place for one", x.deliverTin(RED, 9), 12);
        Checks.fails("P21 not for two", Checks.ILLEGAL_STATE, () -> x.deliverTin(RED, 9));
        red("twelve again", x, 12, 86, 7, 0);
    }

    private static void placeAfterPouring() {
        TideTablePainters x = ordered(0, 4, 4, 7, 7, 7, 7, 7, 7, 7, 7, 7, 7);
        x.paint(1);
        red("two are poured", x, 10, 65, 2, 8);
        Checks.same("P21 there is place for two", x.deliverTin(RED, 9), 11);
        Checks.same("P21 there is place for two", x.deliverTin(RED, 9), 12);
        Checks.fails("P21 not for three", Checks.ILLEGAL_STATE, () -> x.deliverTin(RED, 9));
    }

    /** "The tin itself is removed if it is empty then". */
    private static void exactlyEnough() {
        TideTablePainters x = ordered(2, 7);
        Checks.same("P34 exactly enough", x.paint(1), 1);
        red("exactly enough", x, 0, 0, 0, 0);
        Checks.same("P25 five stay", x.paintUsed(), 5);
        Checks.same("P26 two drip", x.paintDripped(), 2);
    }

    /** "If no tin of the colour contains the amount, it cannot be taken, and no tin is poured away". */
    private static void oneTooFew() {
        TideTablePainters x = ordered(2, 6);
        Checks.same("P34 one too few", x.paint(1), 0);
        red("one too few", x, 1, 6, 6, 0);
        Checks.same("P25 nothing stays", x.paintUsed(), 0);
        Checks.same("P26 nothing drips", x.paintDripped(), 0);
    }

    private static void oneMoreThanEnough() {
        TideTablePainters x = ordered(2, 8);
        Checks.same("P34 one more", x.paint(1), 1);
        red("one more, the tin stays", x, 1, 1, 1, 0);
    }

    /** The amount is taken from one tin: twelve that are too small do not help. */
    private static void sumIsNotEnough() {
        TideTablePainters x = ordered(0, 4, 4, 4, 4, 4, 4, 4, 4, 4, 4, 4, 4);
        Checks.same("P34 48 millilitres, but 4 in each", x.paint(50), 0);
        red("twelve too small ones", x, 12, 48, 4, 0);
        Checks.same("P32 the job stays", x.jobPier(), 0);
    }

    /** "Taken from the oldest tin of the colour that contains at least this amount": not from the fullest. */
    private static void oldestThatContainsIt() {
        TideTablePainters first = ordered(0, 6, 5, 999);
        first.paint(1);
        red("the first of three", first, 3, 1005, 1, 0);
        TideTablePainters second = ordered(0, 4, 5, 999);
        second.paint(1);
        red("the second of three, and empty", second, 1, 999, 999, 4);
        TideTablePainters third = ordered(0, 4, 4, 999);
        third.paint(1);
        red("the third of three", third, 1, 994, 994, 8);
    }

    /** "All older tins of the colour are poured away": no younger ones, though they are too small. */
    private static void onlyOlderTinsArePoured() {
        TideTablePainters x = ordered(0, 3, 8, 2, 1);
        x.paint(1);
        red("the younger ones stay", x, 3, 6, 3, 3);
        Checks.same("P34 nor does any contain 5 now", x.paint(1), 0);
        red("they still stay", x, 3, 6, 3, 3);
    }

    private static void lastOfTwelve() {
        TideTablePainters exact = ordered(9, 13, 13, 13, 13, 13, 13, 13, 13, 13, 13, 13, 14);
        Checks.same("P34 the twelfth tin", exact.paint(1), 1);
        red("all are gone", exact, 0, 0, 0, 143);
        TideTablePainters more = ordered(9, 13, 13, 13, 13, 13, 13, 13, 13, 13, 13, 13, 15);
        Checks.same("P34 the twelfth tin", more.paint(1), 1);
        red("eleven are gone", more, 1, 1, 1, 143);
        TideTablePainters none = ordered(9, 13, 13, 13, 13, 13, 13, 13, 13, 13, 13, 13, 13);
        Checks.same("P34 no tin of twelve", none.paint(1), 0);
        red("none is gone", none, 12, 156, 13, 0);
    }

    /** "5 millilitres plus 1 millilitre for each rung of the ladder", 0 to 9 rungs. */
    private static void leastAndGreatestAmount() {
        for (int rungs = 0; rungs <= 9; rungs++) {
            TideTablePainters x = ordered(rungs, 100);
            Checks.same("P34 one line", x.paint(1), 1);
            Checks.same("P23 rungs " + rungs, x.paintLeft(RED), 95 - rungs);
            Checks.same("P25 rungs " + rungs, x.paintUsed(), 5);
            Checks.same("P26 rungs " + rungs, x.paintDripped(), rungs);
            Checks.same("P42 rungs " + rungs, x.dripsOf(0), rungs);
        }
    }

    /** A board of a pier with 9 rungs with a faded red line 3. */
    private static TideTablePainters faded(int... redTins) {
        TideTablePainters x = ordered(9, 14);
        x.paint(1);
        x.giveUpJob();
        x.passDays(7);
        for (int millilitres : redTins) {
            x.deliverTin(RED, millilitres);
        }
        return x;
    }

    /** "This takes 5 millilitres", without those that drip: 5 are enough, 4 are not. */
    private static void touchingUpTakesFive() {
        TideTablePainters exact = faded(5);
        Checks.same("P36 five are enough", exact.touchUp(0), 3);
        red("the tin is empty", exact, 0, 0, 0, 0);
        Checks.same("P25 five more", exact.paintUsed(), 10);
        Checks.same("P26 no more", exact.paintDripped(), 9);
        Checks.same("P42 no more", exact.dripsOf(0), 9);
        TideTablePainters more = faded(6);
        Checks.same("P36 six", more.touchUp(0), 3);
        red("the tin stays", more, 1, 1, 1, 0);
        TideTablePainters few = faded(4);
        Checks.fails("P36 four", Checks.ILLEGAL_STATE, () -> few.touchUp(0));
        red("four stay", few, 1, 4, 4, 0);
        Checks.same("P39 the line stays faded", few.lineState(0, 3), TideTablePainters.FADED);
    }

    private static void touchingUpPours() {
        TideTablePainters x = faded(4, 3, 5, 1);
        Checks.same("P36 from the third tin", x.touchUp(0), 3);
        red("two poured, one emptied", x, 1, 1, 1, 7);
        TideTablePainters none = faded(4, 3, 4, 1);
        Checks.fails("P36 from no tin", Checks.ILLEGAL_STATE, () -> none.touchUp(0));
        red("none poured", none, 4, 12, 4, 0);
    }

    /** "All older tins of the colour": those of the other colour stay, and the sums are of both colours. */
    private static void coloursAreApart() {
        TideTablePainters x = ordered(1, 3, 6);
        x.deliverTin(BLUE, 2);
        x.deliverTin(BLUE, 1);
        Checks.same("P34 no blue tin has enough", x.paint(50), 1);
        red("red", x, 0, 0, 0, 3);
        Checks.same("P22 blue", x.tinCount(BLUE), 2);
        Checks.same("P24 blue", x.oldestTin(BLUE), 2);
        x.deliverTin(BLUE, 6);
        Checks.same("P34 one blue line", x.paint(50), 1);
        Checks.same("P27 of both colours", x.paintPoured(), 6);
        Checks.same("P25 of both colours", x.paintUsed(), 10);
        Checks.same("P26 of both colours", x.paintDripped(), 2);
        Checks.same("P22 blue", x.tinCount(BLUE), 0);
    }

    private static void allLinesFromOneTin() {
        TideTablePainters x = ordered(9, 28);
        x.deliverTin(BLUE, 27);
        Checks.same("P34 the second blue line has one too few", x.paint(50), 3);
        Checks.same("P23 red is used up", x.paintLeft(RED), 0);
        Checks.same("P23 blue has 13", x.paintLeft(BLUE), 13);
        x.deliverTin(BLUE, 14);
        Checks.same("P34 line 0", x.paint(50), 1);
        Checks.same("P27 the 13 are poured", x.paintPoured(), 13);
        Checks.same("P22 both are gone", x.tinCount(BLUE), 0);
    }
}
