/** Promises 21 to 27: tins, and how paint is taken from them. */
final class PaintTest {
    private static final int BLUE = TideTablePainters.BLUE;
    private static final int RED = TideTablePainters.RED;

    private PaintTest() {
    }

    static void run() {
        deliver();
        thirteenthTin();
        wrongInputs();
        takeFromTheOldestThatHasEnough();
        takeAnExactTin();
        takeNothing();
        removedTinsAreGone();
        pourElevenOfTwelve();
        pourFromTwelve();
        drippedAndUsed();
    }

    private static void deliver() {
        TideTablePainters x = new TideTablePainters();
        Checks.same("P21 first", x.deliverTin(BLUE, 999), 1);
        Checks.same("P21 second", x.deliverTin(BLUE, 1), 2);
        Checks.same("P21 other colour", x.deliverTin(RED, 20), 1);
        Checks.same("P22 blue", x.tinCount(BLUE), 2);
        Checks.same("P22 red", x.tinCount(RED), 1);
        Checks.same("P23 blue", x.paintLeft(BLUE), 1000);
        Checks.same("P23 red", x.paintLeft(RED), 20);
        Checks.same("P24 blue", x.oldestTin(BLUE), 999);
        Checks.same("P24 red", x.oldestTin(RED), 20);
    }

    private static void thirteenthTin() {
        TideTablePainters x = new TideTablePainters();
        for (int i = 1; i <= 12; i++) {
            Checks.same("P21 twelve", x.deliverTin(RED, i), i);
        }
        Checks.fails("P21 thirteenth", Checks.ILLEGAL_STATE, () -> x.deliverTin(RED, 1));
        Checks.fails("P21 thirteenth and wrong", Checks.ILLEGAL_ARGUMENT, () -> x.deliverTin(RED, 0));
        Checks.same("P21 other colour is free", x.deliverTin(BLUE, 1), 1);
        Checks.same("P23 twelve", x.paintLeft(RED), 78);
    }

    private static void wrongInputs() {
        TideTablePainters x = new TideTablePainters();
        for (int colour : new int[] {-1, 2, Integer.MIN_VALUE, Integer.MAX_VALUE}) {
            Checks.fails("P21 colour", Checks.ILLEGAL_ARGUMENT, () -> x.deliverTin(colour, 5));
            Checks.fails("P22 colour", Checks.ILLEGAL_ARGUMENT, () -> x.tinCount(colour));
            Checks.fails("P23 colour", Checks.ILLEGAL_ARGUMENT, () -> x.paintLeft(colour));
            Checks.fails("P24 colour", Checks.ILLEGAL_ARGUMENT, () -> x.oldestTin(colour));
        }
        for (int millilitres : new int[] {0, -1, 1000, Integer.MIN_VALUE, Integer.MAX_VALUE}) {
            Checks.fails("P21 millilitres", Checks.ILLEGAL_ARGUMENT, () -> x.deliverTin(BLUE, millilitres));
        }
        Checks.fails("P24 no tin", Checks.NO_ELEMENT, () -> x.oldestTin(BLUE));
        x.deliverTin(BLUE, 5);
        Checks.fails("P24 no tin of this colour", Checks.NO_ELEMENT, () -> x.oldestTin(RED));
        Checks.same("P21 wrong calls deliver nothing", x.paintLeft(BLUE) + x.paintLeft(RED), 5);
    }

    /** A pier without rungs on day 0 has the waters high, low, high, low, painted from the last up. */
    private static TideTablePainters withOrder(int rungs) {
        TideTablePainters x = new TideTablePainters();
        x.addPier(100, 300, 400, 200, rungs);
        x.order(0, 0);
        return x;
    }

    private static void takeFromTheOldestThatHasEnough() {
        TideTablePainters x = withOrder(3);
        x.deliverTin(RED, 7);
        x.deliverTin(RED, 4);
        x.deliverTin(RED, 9);
        x.deliverTin(RED, 50);
        Checks.same("P34 one line", x.paint(1), 1);
        Checks.same("P27 older tins are poured", x.paintPoured(), 11);
        Checks.same("P22 two tins", x.tinCount(RED), 2);
        Checks.same("P24 the tin itself stays", x.oldestTin(RED), 1);
        Checks.same("P23 left", x.paintLeft(RED), 51);
        Checks.same("P25 used", x.paintUsed(), 5);
        Checks.same("P26 dripped", x.paintDripped(), 3);
    }

    private static void takeAnExactTin() {
        TideTablePainters x = withOrder(0);
        x.deliverTin(RED, 3);
        x.deliverTin(RED, 5);
        x.deliverTin(RED, 6);
        x.deliverTin(BLUE, 5);
        Checks.same("P34 two lines", x.paint(2), 2);
        Checks.same("P22 the empty tin is removed", x.tinCount(RED), 1);
        Checks.same("P24 the next one", x.oldestTin(RED), 6);
        Checks.same("P22 the only tin is removed", x.tinCount(BLUE), 0);
        Checks.same("P23 none", x.paintLeft(BLUE), 0);
        Checks.same("P27 poured", x.paintPoured(), 3);
        Checks.same("P25 both colours", x.paintUsed(), 10);
        Checks.same("P26 nothing dripped", x.paintDripped(), 0);
    }

    private static void takeNothing() {
        TideTablePainters x = withOrder(3);
        x.deliverTin(RED, 7);
        x.deliverTin(RED, 7);
        x.deliverTin(BLUE, 500);
        Checks.same("P34 no tin has enough", x.paint(1), 0);
        Checks.same("P22 no tin is poured", x.tinCount(RED), 2);
        Checks.same("P27 nothing poured", x.paintPoured(), 0);
        Checks.same("P25 nothing used", x.paintUsed(), 0);
        Checks.same("P23 the other colour is not taken", x.paintLeft(BLUE), 500);
    }

    private static void removedTinsAreGone() {
        TideTablePainters x = withOrder(0);
        x.deliverTin(RED, 5);
        x.deliverTin(RED, 6);
        x.deliverTin(BLUE, 999);
        Checks.same("P34 four lines", x.paint(50), 4);
        Checks.same("P24 the last millilitre", x.oldestTin(RED), 1);
        x.order(0, 0);
        Checks.same("P34 no red paint", x.paint(50), 0);
        Checks.same("P27 nothing poured", x.paintPoured(), 0);
        Checks.same("P23 the last millilitre", x.paintLeft(RED), 1);
    }

    private static void pourElevenOfTwelve() {
        TideTablePainters x = withOrder(0);
        for (int i = 0; i < 11; i++) {
            x.deliverTin(RED, 4);
        }
        x.deliverTin(RED, 5);
        Checks.same("P34 one line", x.paint(1), 1);
        Checks.same("P22 all are gone", x.tinCount(RED), 0);
        Checks.same("P27 eleven", x.paintPoured(), 44);
        Checks.same("P21 there is place again", x.deliverTin(RED, 9), 1);
        Checks.same("P24 the new one", x.oldestTin(RED), 9);
    }

    private static void pourFromTwelve() {
        TideTablePainters x = withOrder(0);
        x.deliverTin(RED, 1);
        for (int i = 1; i < 12; i++) {
            x.deliverTin(RED, 10 + i);
        }
        x.paint(1);
        Checks.same("P22 eleven", x.tinCount(RED), 11);
        Checks.same("P24 the second one", x.oldestTin(RED), 6);
        Checks.same("P23 left", x.paintLeft(RED), 171);
    }

    private static void drippedAndUsed() {
        TideTablePainters x = withOrder(9);
        x.deliverTin(RED, 13);
        x.deliverTin(RED, 999);
        x.deliverTin(BLUE, 13);
        x.deliverTin(BLUE, 999);
        Checks.same("P34 the board", x.paint(4), 4);
        Checks.same("P25 four lines", x.paintUsed(), 20);
        Checks.same("P26 four lines", x.paintDripped(), 36);
        Checks.same("P27 both colours", x.paintPoured(), 26);
        x.touchUp(0);
        Checks.same("P25 touched up", x.paintUsed(), 25);
        Checks.same("P26 nothing drips", x.paintDripped(), 36);
        x.order(0, 1);
        x.paint(1);
        Checks.same("P25 wiped off included", x.paintUsed(), 30);
    }
}
