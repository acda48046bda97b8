/** Runs the project's own tests; takes the counts of the tests that ran before, and adds them. */
public final class AllTests {
    private AllTests() {
    }

    public static void main(String[] args) {
        int passedBefore = args.length > 0 ? Integer.parseInt(args[0]) : 0;
        int failedBefore = args.length > 1 ? Integer.parseInt(args[1]) : 0;
        FaceTests.all();
        ReadmeTests.all();
        TableTests.all();
        NetTests.all();
        SignTests.all();
        RowTests.all();
        TermEdges.all();
        TableEdges.all();
        NetEdges.all();
        SignEdges.all();
        RowEdges.all();
        SweepTests.all();
        ModelTests.all();
        int failed = failedBefore + Check.failed();
        System.out.println((passedBefore + Check.passed()) + " passed, " + failed + " failed");
        System.exit(failed == 0 ? 0 : 1);
    }
}
