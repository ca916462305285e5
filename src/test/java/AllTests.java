/** Runs every test of the project. */
public final class AllTests {
    private AllTests() {
    }

    public static void main(String[] args) {
        FaceTest.run();
        LanguageTest.run();
        ReadmeTest.run();
        PierTest.run();
        TideTest.run();
        ReportTest.run();
        PaintTest.run();
        OrderTest.run();
        BoardTest.run();
        ParameterTest.run();
        RefusalTest.run();
        TideEdgeTest.run();
        ReportEdgeTest.run();
        PaintEdgeTest.run();
        OrderEdgeTest.run();
        BoardEdgeTest.run();
        if (args.length == 0 || !args[0].equals("short")) {
            RandomRunsTest.run();
        }
        System.out.println(Checks.passed + " passed, " + Checks.failed + " failed");
        if (Checks.failed != 0 || Checks.passed == 0) {
            System.exit(1);
        }
    }
}
