/** The states in which many tests begin. */
final class Scenes {
    private static final int BLUE = TideTablePainters.BLUE;
    private static final int RED = TideTablePainters.RED;

    private Scenes() {
    }

    /** So many piers whose tables have 4 waters on day 0 (100, 472, 845, 1217) and 3 on day 5. */
    static TideTablePainters piers(int count, int rungs) {
        TideTablePainters x = new TideTablePainters();
        for (int i = 0; i < count; i++) {
            x.addPier(100, 300, 400, 200, rungs);
        }
        return x;
    }

    static TideTablePainters piersAndPaint(int count, int rungs) {
        TideTablePainters x = piers(count, rungs);
        x.deliverTin(BLUE, 999);
        x.deliverTin(RED, 999);
        return x;
    }

    /** Reports of several ages, a job with a painted line, a waiting order, a board with each state of a line. */
    static TideTablePainters busy() {
        TideTablePainters x = new TideTablePainters();
        x.addPier(100, 300, 400, 200, 3);
        x.addPier(10, 150, 301, 100, 6);
        x.addPier(700, 50, 999, 0, 0);
        for (int colour = 0; colour < 2; colour++) {
            x.deliverTin(colour, 9);
            x.deliverTin(colour, 300);
            x.deliverTin(colour, 40);
        }
        // Pier 1 on day 10: low 137, high 510, low 882, high 1255.
        x.order(1, 10);
        x.paint(1);
        x.passDays(7);
        x.paint(2);
        x.giveUpJob();
        x.report(0, 0, 10);
        x.report(1, 0, -20);
        x.report(2, 1, 30);
        x.passDays(3);
        x.report(3, 0, 5);
        x.order(2, 10);
        x.paint(1);
        x.order(0, 19);
        x.observe(0, 11);
        return x;
    }

    /** Six piers, each with six reports and a board of faded lines; no order waits. */
    static TideTablePainters wide() {
        TideTablePainters x = piersAndPaint(6, 0);
        for (int i = 0; i < 6; i++) {
            x.order(i, 0);
        }
        x.paint(50);
        x.passDays(7);
        for (int i = 0; i < 36; i++) {
            x.report(i % 6, i / 6, i - 18);
        }
        return x;
    }

    static TideTablePainters wideWithOrders() {
        TideTablePainters x = wide();
        for (int i = 0; i < 6; i++) {
            x.order(i, 20 - i);
        }
        return x;
    }

    /** As many of everything as there may be: piers, tins, orders and reports. */
    static TideTablePainters full() {
        TideTablePainters x = piers(6, 2);
        for (int i = 0; i < 12; i++) {
            x.deliverTin(BLUE, 1 + i);
            x.deliverTin(RED, 12 - i);
        }
        for (int i = 0; i < 6; i++) {
            x.order(i, 5);
            x.report(i, 0, 10 * i);
        }
        return x;
    }

    /** A board with a faded blue line 3 and a readable red line 2, no job, and 4 millilitres of each colour. */
    static TideTablePainters poor() {
        TideTablePainters x = piers(2, 0);
        x.deliverTin(RED, 5);
        x.deliverTin(BLUE, 5);
        x.order(1, 7);
        x.paint(1);
        x.passDays(7);
        x.paint(1);
        x.giveUpJob();
        x.deliverTin(RED, 4);
        x.deliverTin(BLUE, 4);
        return x;
    }
}
