/** Runs every test of the project: a line PASS or FAIL for each, exit code 1 if one fails. */
public final class AllTests {
    private AllTests() {
    }

    /** With an argument, only the tests whose names begin so are run. */
    public static void main(String[] args) {
        Tests tests = new Tests();
        PromiseTests.addTo(tests);
        RingEdges.addTo(tests);
        FigureEdges.addTo(tests);
        HoldEdges.addTo(tests);
        TextEdges.addTo(tests);
        HistoryEdges.addTo(tests);
        WayEdges.addTo(tests);
        RefusedCalls.addTo(tests);
        FaceTests.addTo(tests);
        ReadmeTests.addTo(tests);
        RandomRuns.addTo(tests);
        System.exit(tests.pass(args.length == 0 ? "" : args[0]) ? 0 : 1);
    }
}
