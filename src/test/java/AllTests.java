/** Runs every test of the project; ends with exit code 1 if one fails. */
final class AllTests {
    private AllTests() {
    }

    public static void main(String[] args) {
        Checks checks = new Checks();
        FaceTests.addTo(checks);
        PlanTests.addTo(checks);
        CopyTests.addTo(checks);
        PersonTests.addTo(checks);
        RunTests.addTo(checks);
        if (!checks.report()) {
            System.exit(1);
        }
    }
}
