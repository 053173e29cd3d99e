/** Runs every test of the project; the exit code is 1 if one fails. */
public final class AllTests {
    private AllTests() {
    }

    public static void main(String[] args) {
        FaceTests.runAll();
        TellingTests.runAll();
        AskingTests.runAll();
        TermsTests.runAll();
        edges();
        InsideTests.runAll();
        ReadmeTests.runAll();
        RandomRuns.runAll(args.length > 0 ? Integer.parseInt(args[0]) : 2000);
        Check.tell();
        if (Check.failures() > 0) {
            System.exit(1);
        }
    }

    private static void edges() {
        RangeTests.runAll();
        LimitTests.runAll();
        EmptyTests.runAll();
        FirstThrowTests.runAll();
        UnchangedTests.runAll();
        RoundTests.runAll();
        OrderTests.runAll();
        RunTests.runAll();
        BackTests.runAll();
        CommitTests.runAll();
    }
}
