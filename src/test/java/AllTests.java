/** Runs every test of the project; ends with exit code 1 if one fails. */
final class AllTests {
    private AllTests() {
    }

    public static void main(String[] args) {
        Checks checks = new Checks();
        FaceTests.addTo(checks);
        DescriptionTests.addTo(checks);
        PlanTests.addTo(checks);
        ReplaceTests.addTo(checks);
        CopyTests.addTo(checks);
        LoanTests.addTo(checks);
        PersonTests.addTo(checks);
        SuggestTests.addTo(checks);
        DigestTests.addTo(checks);
        EmptyTests.addTo(checks);
        FullTests.addTo(checks);
        LimitTests.addTo(checks);
        OrderTests.addTo(checks);
        RefusalTests.addTo(checks);
        LongUseTests.addTo(checks);
        ReadmeTests.addTo(checks);
        RunTests.addTo(checks);
        if (!checks.report()) {
            System.exit(1);
        }
    }
}
