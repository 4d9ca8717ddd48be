/** Runs every test of the project; ends with exit code 1 if one fails. */
public final class AllTests {
    private AllTests() {
    }

    public static void main(String[] args) {
        FaceTest.runAll();
        LanguageTest.runAll();
        ReadmeTest.runAll();
        ProductTest.runAll();
        ChoicesTest.runAll();
        WhatThereIsTest.runAll();
        WhatIsLeftTest.runAll();
        WhyTest.runAll();
        PricesTest.runAll();
        TermsTest.runAll();
        ProductEdgesTest.runAll();
        ChoicesEdgesTest.runAll();
        ReadingEdgesTest.runAll();
        WhyAndPricesEdgesTest.runAll();
        EdgeSweepTest.runAll();
        RandomRunsTest.runAll();
        System.exit(Check.report() ? 0 : 1);
    }
}
