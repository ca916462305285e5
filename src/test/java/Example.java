public final class Example {
    public static void main(String[] args) {
        TideTablePainters service = new TideTablePainters();

        // A pier has a delay, a mean level, a spring range, a neap range and a ladder with some rungs.
        int pier = service.addPier(100, 300, 400, 200, 3);
        int today = service.today();
        for (int water = 0; water < service.waterCount(pier, today); water++) {
            System.out.println((service.isHighWater(pier, today, water) ? "high" : "low")
                    + " water at minute " + service.waterMinute(pier, today, water)
                    + ", " + service.waterHeight(pier, today, water) + " cm");
        }

        // Fishermen report by how many minutes the waters are late; what is observed changes the trust in them.
        service.report(0, pier, 10);
        System.out.println("correction " + service.report(1, pier, 21));
        service.observe(pier, 12);
        System.out.println("trusts " + service.trustOf(0) + " and " + service.trustOf(1)
                + ", correction " + service.correctionOf(pier));

        // High waters are painted blue and low waters red, from the last line up.
        service.deliverTin(TideTablePainters.BLUE, 20);
        service.deliverTin(TideTablePainters.RED, 30);
        service.order(pier, today);
        System.out.println(service.paint(50) + " lines painted, unreadable " + service.unreadableLines(pier));
        System.out.println("line " + service.touchUp(pier) + " touched up, right " + service.isRight(pier));
        System.out.println("line 0 says minute " + service.lineMinute(pier, 0));

        // Seven days after painting the lines fade.
        System.out.println("day " + service.passDays(7) + ", unreadable " + service.unreadableLines(pier));

        // A call that is refused changes nothing.
        try {
            service.order(pier + 1, today);
        } catch (IndexOutOfBoundsException e) {
            System.out.println("there is no pier " + (pier + 1));
        }
    }
}
