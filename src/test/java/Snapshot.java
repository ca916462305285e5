/** All that an object answers to questions, as a text; two objects in the same state have the same one. */
final class Snapshot {
    private final TideTablePainters x;
    private final StringBuilder text = new StringBuilder();

    private Snapshot(TideTablePainters x) {
        this.x = x;
    }

    /** Asks some 340 questions if there are 6 piers with 6 reports each, so that 170 of the 512 calls are left. */
    static String of(TideTablePainters x) {
        Snapshot s = new Snapshot(x);
        s.service();
        for (int pier = 0; pier < x.pierCount(); pier++) {
            s.tide(pier);
            s.reports(pier);
            s.board(pier);
        }
        return s.text.toString();
    }

    private void tell(String what, int... values) {
        text.append(what);
        for (int value : values) {
            text.append(' ').append(value);
        }
        text.append('\n');
    }

    private void service() {
        tell("piers and day", x.pierCount(), x.today());
        for (int fisherman = 0; fisherman < 6; fisherman++) {
            tell("trust", x.trustOf(fisherman));
        }
        for (int colour = 0; colour < 2; colour++) {
            tell("tins", x.tinCount(colour), x.paintLeft(colour));
            if (x.tinCount(colour) > 0) {
                tell("oldest", x.oldestTin(colour));
            }
        }
        tell("paint", x.paintUsed(), x.paintDripped(), x.paintPoured());
        for (int place = 0; place < x.waitingOrders(); place++) {
            tell("waiting", x.waitingPier(place));
        }
        tell("job", x.jobPier(), x.linesToPaint());
        tell("right boards", x.rightBoards());
    }

    private void tide(int pier) {
        int day = x.today();
        tell("pier", pier, x.rangeOf(pier, day), x.minutesToHighWater(pier, day, 700));
        int waters = x.waterCount(pier, day);
        for (int water = 0; water < waters; water++) {
            tell("water", x.waterMinute(pier, day, water), x.waterHeight(pier, day, water),
                    x.isHighWater(pier, day, water) ? 1 : 0);
        }
    }

    private void reports(int pier) {
        tell("correction", x.correctionOf(pier));
        int reports = x.reportCount(pier);
        for (int place = 0; place < reports; place++) {
            int fisherman = x.reporterAt(pier, place);
            tell("report", fisherman, x.reportedMinutes(fisherman, pier), x.reportAge(fisherman, pier));
        }
    }

    private void board(int pier) {
        tell("board", x.boardDay(pier), x.dripsOf(pier), x.unreadableLines(pier), x.isRight(pier) ? 1 : 0);
        int lines = x.lineCount(pier);
        for (int line = 0; line < lines; line++) {
            int state = x.lineState(pier, line);
            tell("line", state);
            if (state != TideTablePainters.BLANK) {
                tell("painted", x.lineMinute(pier, line), x.lineHeight(pier, line));
            }
        }
    }
}
