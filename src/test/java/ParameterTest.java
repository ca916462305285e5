/**
 * Each parameter of each method: the last value that is allowed and the first that is not, on each side. The refused
 * call throws the exception of the document and changes nothing.
 */
final class ParameterTest {
    private static final Class<IllegalArgumentException> ARGUMENT = Checks.ILLEGAL_ARGUMENT;
    private static final Class<IndexOutOfBoundsException> INDEX = Checks.NO_INDEX;

    private interface CallWith {
        int on(TideTablePainters x, int value);
    }

    private ParameterTest() {
    }

    static void run() {
        newPier();
        daysAndMoon();
        tables();
        reports();
        tins();
        ordersAndPainting();
        piersOfQuestions(Scenes::wide, 6);
        piersOfQuestions(() -> Scenes.piers(1, 0), 1);
        piersOfQuestions(TideTablePainters::new, 0);
        piersOfBoardCalls();
        places();
        lines();
    }

    private static void range(String what, Scene scene, int[] bounds, Class<? extends RuntimeException> due,
            CallWith call) {
        int least = bounds[0];
        int most = bounds[1];
        // An empty range allows nothing: least is above most then.
        for (int good : least > most ? new int[0] : new int[] {least, most}) {
            scene.allows(what + " " + good, x -> call.on(x, good));
        }
        for (int bad : new int[] {least - 1, most + 1, Integer.MIN_VALUE, Integer.MAX_VALUE}) {
            scene.refuses(what + " " + bad, due, x -> call.on(x, bad));
        }
    }

    private static int[] to(int least, int most) {
        return new int[] {least, most};
    }

    private static int number(boolean answer) {
        return answer ? 1 : 0;
    }

    private static void newPier() {
        Scene empty = new Scene(TideTablePainters::new);
        Scene busy = new Scene(Scenes::busy);
        for (Scene s : new Scene[] {empty, busy}) {
            range("P2 delay", s, to(0, 744), ARGUMENT, (x, v) -> x.addPier(v, 1, 2, 1, 1));
            range("P2 mean", s, to(0, 999), ARGUMENT, (x, v) -> x.addPier(1, v, 2, 1, 1));
            range("P2 spring", s, to(0, 999), ARGUMENT, (x, v) -> x.addPier(1, 1, v, 0, 1));
            range("P2 spring of neap 7", s, to(7, 999), ARGUMENT, (x, v) -> x.addPier(1, 1, v, 7, 1));
            range("P2 neap of spring 0", s, to(0, 0), ARGUMENT, (x, v) -> x.addPier(1, 1, 0, v, 1));
            range("P2 neap of spring 5", s, to(0, 5), ARGUMENT, (x, v) -> x.addPier(1, 1, 5, v, 1));
            range("P2 neap of spring 999", s, to(0, 999), ARGUMENT, (x, v) -> x.addPier(1, 1, 999, v, 1));
            range("P2 rungs", s, to(0, 9), ARGUMENT, (x, v) -> x.addPier(1, 1, 2, 1, v));
        }
    }

    private static void daysAndMoon() {
        Scene busy = new Scene(Scenes::busy);
        range("P5 days", busy, to(1, 60), ARGUMENT, (x, v) -> x.passDays(v));
        range("P6 day", busy, to(0, 99999), ARGUMENT, (x, v) -> x.moonAge(v));
        range("P7 day", busy, to(0, 99999), ARGUMENT, (x, v) -> x.rangeOf(1, v));
        Scene empty = new Scene(TideTablePainters::new);
        range("P5 days", empty, to(1, 60), ARGUMENT, (x, v) -> x.passDays(v));
        range("P6 day", empty, to(0, 99999), ARGUMENT, (x, v) -> x.moonAge(v));
    }

    private static void tables() {
        Scene s = new Scene(Scenes::busy);
        range("P8 day", s, to(0, 99999), ARGUMENT, (x, v) -> x.waterCount(0, v));
        range("P9 day", s, to(0, 99999), ARGUMENT, (x, v) -> x.waterMinute(0, v, 0));
        range("P10 day", s, to(0, 99999), ARGUMENT, (x, v) -> x.waterHeight(0, v, 0));
        range("P11 day", s, to(0, 99999), ARGUMENT, (x, v) -> number(x.isHighWater(0, v, 0)));
        range("P12 day", s, to(0, 99999), ARGUMENT, (x, v) -> x.minutesToHighWater(0, v, 5));
        range("P12 minute", s, to(0, 1439), ARGUMENT, (x, v) -> x.minutesToHighWater(0, 5, v));
        range("P12 minute of the last day", s, to(0, 1439), ARGUMENT, (x, v) -> x.minutesToHighWater(0, 99999, v));
        // Without reports there are 4 waters on day 0 and 3 on day 5.
        Scene plain = new Scene(() -> Scenes.piers(1, 0));
        for (int day : new int[] {0, 5}) {
            int last = day == 0 ? 3 : 2;
            range("P9 water of day " + day, plain, to(0, last), INDEX, (x, v) -> x.waterMinute(0, day, v));
            range("P10 water of day " + day, plain, to(0, last), INDEX, (x, v) -> x.waterHeight(0, day, v));
            range("P11 water of day " + day, plain, to(0, last), INDEX, (x, v) -> number(x.isHighWater(0, day, v)));
        }
    }

    private static void reports() {
        Scene s = new Scene(Scenes::busy);
        Scene wide = new Scene(Scenes::wide);
        range("P13 fisherman", s, to(0, 5), INDEX, (x, v) -> x.report(v, 0, 1));
        range("P13 minutes of a new report", s, to(-60, 60), ARGUMENT, (x, v) -> x.report(5, 0, v));
        range("P13 minutes of a replaced report", s, to(-60, 60), ARGUMENT, (x, v) -> x.report(0, 0, v));
        range("P14 minutes", s, to(-60, 60), ARGUMENT, (x, v) -> x.observe(0, v));
        range("P14 minutes without reports", s, to(-60, 60), ARGUMENT, (x, v) -> x.observe(2, v));
        range("P16 fisherman", s, to(0, 5), INDEX, (x, v) -> x.trustOf(v));
        range("P19 fisherman", wide, to(0, 5), INDEX, (x, v) -> x.reportedMinutes(v, 3));
        range("P20 fisherman", wide, to(0, 5), INDEX, (x, v) -> x.reportAge(v, 3));
    }

    private static void tins() {
        Scene s = new Scene(Scenes::busy);
        range("P21 colour", s, to(0, 1), ARGUMENT, (x, v) -> x.deliverTin(v, 9));
        range("P21 blue millilitres", s, to(1, 999), ARGUMENT, (x, v) -> x.deliverTin(0, v));
        range("P21 red millilitres", s, to(1, 999), ARGUMENT, (x, v) -> x.deliverTin(1, v));
        range("P22 colour", s, to(0, 1), ARGUMENT, (x, v) -> x.tinCount(v));
        range("P23 colour", s, to(0, 1), ARGUMENT, (x, v) -> x.paintLeft(v));
        range("P24 colour", s, to(0, 1), ARGUMENT, (x, v) -> x.oldestTin(v));
        Scene empty = new Scene(TideTablePainters::new);
        range("P22 colour of no tin", empty, to(0, 1), ARGUMENT, (x, v) -> x.tinCount(v));
        range("P23 colour of no tin", empty, to(0, 1), ARGUMENT, (x, v) -> x.paintLeft(v));
    }

    private static void ordersAndPainting() {
        Scene s = new Scene(Scenes::busy);
        range("P28 day", s, to(0, 99999), ARGUMENT, (x, v) -> x.order(1, v));
        range("P28 day, the pier is the job", s, to(0, 99999), ARGUMENT, (x, v) -> x.order(2, v));
        range("P34 lines with a job", s, to(1, 50), ARGUMENT, (x, v) -> x.paint(v));
        Scene ordered = new Scene(Scenes::wideWithOrders);
        range("P34 lines without a job", ordered, to(1, 50), ARGUMENT, (x, v) -> x.paint(v));
        Scene empty = new Scene(TideTablePainters::new);
        range("P34 lines with nothing to do", empty, to(1, 50), ARGUMENT, (x, v) -> x.paint(v));
    }

    private static void piersOfQuestions(java.util.function.Supplier<TideTablePainters> maker, int piers) {
        Scene s = new Scene(maker);
        int[] all = to(0, piers - 1);
        range("P7 pier", s, all, INDEX, (x, v) -> x.rangeOf(v, 0));
        range("P8 pier", s, all, INDEX, (x, v) -> x.waterCount(v, 0));
        range("P9 pier", s, all, INDEX, (x, v) -> x.waterMinute(v, 0, 0));
        range("P10 pier", s, all, INDEX, (x, v) -> x.waterHeight(v, 0, 0));
        range("P11 pier", s, all, INDEX, (x, v) -> number(x.isHighWater(v, 0, 0)));
        range("P12 pier", s, all, INDEX, (x, v) -> x.minutesToHighWater(v, 0, 0));
        range("P13 pier", s, all, INDEX, (x, v) -> x.report(0, v, 1));
        range("P14 pier", s, all, INDEX, (x, v) -> x.observe(v, 1));
        range("P15 pier", s, all, INDEX, (x, v) -> x.correctionOf(v));
        range("P17 pier", s, all, INDEX, (x, v) -> x.reportCount(v));
        range("P28 pier", s, all, INDEX, (x, v) -> x.order(v, 3));
        range("P37 pier", s, all, INDEX, (x, v) -> x.boardDay(v));
        range("P38 pier", s, all, INDEX, (x, v) -> x.lineCount(v));
        range("P42 pier", s, all, INDEX, (x, v) -> x.dripsOf(v));
        range("P43 pier", s, all, INDEX, (x, v) -> x.unreadableLines(v));
        range("P44 pier", s, all, INDEX, (x, v) -> number(x.isRight(v)));
    }

    /** These ask for a report, an order or a line too; the scenes have one for each of the six piers. */
    private static void piersOfBoardCalls() {
        Scene s = new Scene(Scenes::wide);
        int[] all = to(0, 5);
        range("P18 pier", s, all, INDEX, (x, v) -> x.reporterAt(v, 5));
        range("P19 pier", s, all, INDEX, (x, v) -> x.reportedMinutes(2, v));
        range("P20 pier", s, all, INDEX, (x, v) -> x.reportAge(2, v));
        range("P36 pier", s, all, INDEX, (x, v) -> x.touchUp(v));
        range("P39 pier", s, all, INDEX, (x, v) -> x.lineState(v, 3));
        range("P40 pier", s, all, INDEX, (x, v) -> x.lineMinute(v, 3));
        range("P41 pier", s, all, INDEX, (x, v) -> x.lineHeight(v, 3));
        Scene ordered = new Scene(Scenes::wideWithOrders);
        range("P29 pier", ordered, all, INDEX, (x, v) -> x.cancelOrder(v));
    }

    private static void places() {
        Class<? extends RuntimeException> due = Checks.NO_ELEMENT;
        Scene wide = new Scene(Scenes::wideWithOrders);
        range("P18 place of six", wide, to(0, 5), due, (x, v) -> x.reporterAt(5, v));
        range("P31 place of six", wide, to(0, 5), due, (x, v) -> x.waitingPier(v));
        Scene busy = new Scene(Scenes::busy);
        range("P18 place of two", busy, to(0, 1), due, (x, v) -> x.reporterAt(0, v));
        range("P18 place of none", busy, to(0, -1), due, (x, v) -> x.reporterAt(2, v));
        range("P31 place of one", busy, to(0, 0), due, (x, v) -> x.waitingPier(v));
        Scene empty = new Scene(TideTablePainters::new);
        range("P31 place of none", empty, to(0, -1), due, (x, v) -> x.waitingPier(v));
    }

    private static void lines() {
        Scene four = new Scene(Scenes::wide);
        range("P39 line of four", four, to(0, 3), INDEX, (x, v) -> x.lineState(2, v));
        range("P40 line of four", four, to(0, 3), INDEX, (x, v) -> x.lineMinute(2, v));
        range("P41 line of four", four, to(0, 3), INDEX, (x, v) -> x.lineHeight(2, v));
        // A board of four lines was there before, so that line 3 was one once.
        Scene three = new Scene(() -> {
            TideTablePainters x = Scenes.piersAndPaint(1, 0);
            x.order(0, 0);
            x.paint(50);
            x.order(0, 5);
            x.paint(50);
            return x;
        });
        range("P39 line of three", three, to(0, 2), INDEX, (x, v) -> x.lineState(0, v));
        range("P40 line of three", three, to(0, 2), INDEX, (x, v) -> x.lineMinute(0, v));
        range("P41 line of three", three, to(0, 2), INDEX, (x, v) -> x.lineHeight(0, v));
        Scene none = new Scene(() -> Scenes.piers(1, 0));
        range("P39 line of an empty board", none, to(0, -1), INDEX, (x, v) -> x.lineState(0, v));
        range("P40 line of an empty board", none, to(0, -1), INDEX, (x, v) -> x.lineMinute(0, v));
        range("P41 line of an empty board", none, to(0, -1), INDEX, (x, v) -> x.lineHeight(0, v));
    }
}
