/** Promises 9 to 14: choices. */
final class ChoicesTest {
    private ChoicesTest() {
    }

    static void runAll() {
        Check.test("promise 9: choose", ChoicesTest::choose);
        Check.test("promise 10: withdraw", ChoicesTest::withdraw);
        Check.test("promise 11: force takes the latest of an explanation back",
                ChoicesTest::forceTakesBackTheLatest);
        Check.test("promise 11: force takes another choice back", ChoicesTest::forceOtherChoice);
        Check.test("promise 11: force what is chosen", ChoicesTest::forceWhatIsChosen);
        Check.test("promise 12: takeDefaults", ChoicesTest::takeDefaults);
        Check.test("promise 12: takeDefaults by then", ChoicesTest::takeDefaultsByThen);
        Check.test("promise 13: finish", ChoicesTest::finish);
        Check.test("promise 14: reset", ChoicesTest::reset);
    }

    private static String order(ProductConfigurator x) {
        StringBuilder text = new StringBuilder();
        for (int k = 0; k < x.choices(); k++) {
            text.append(x.choiceAt(k)).append('.').append(x.chosen(x.choiceAt(k))).append(' ');
        }
        return text.toString();
    }

    private static void choose() {
        ProductConfigurator x = Products.chain();
        Check.equal(1, x.choose(3, 0));
        Check.equal(2, x.choose(0, 0));
        Check.equal("3.0 0.0 ", order(x));
        Check.equal(1, x.offered(1));
        Check.equal(3, x.choose(1, 0));
        Check.equal(4, x.choose(2, 0));
        Check.equal(1, x.count());
    }

    private static void withdraw() {
        ProductConfigurator x = Products.of(3, 3, 3);
        x.choose(2, 2);
        x.choose(0, 1);
        x.choose(1, 0);
        Check.equal(1, x.withdraw(0));
        Check.equal("2.2 1.0 ", order(x));
        Check.equal(-1, x.chosen(0));
        Check.equal(3, x.count());
        x.choose(0, 2);
        Check.equal("2.2 1.0 0.2 ", order(x));
        Check.equal(2, x.withdraw(2));
        Check.equal("1.0 0.2 ", order(x));
    }

    private static void forceTakesBackTheLatest() {
        // 0.0 is excluded by 1.0 (rule 0), by 2.0 (rule 1) and by 3.0 (rule 2): the explanation
        // leaves later rules out first, so that it names feature 1, then 2, then 3.
        ProductConfigurator x = Products.of(2, 2, 2, 2, 2);
        x.addRule(0, 0, 0, 1, 0);
        x.addRule(0, 2, 0, 0, 0);
        x.addRule(0, 0, 0, 3, 0);
        x.choose(3, 0);
        x.choose(1, 0);
        x.choose(4, 1);
        x.choose(2, 1);
        Check.equal(2, x.whyByChoices(0, 0));
        Check.equal(2, x.force(0, 0));
        Check.equal("4.1 2.1 0.0 ", order(x));

        // The chain leads from 0.0 to 2.0, then, once 2.1 is taken back, on to 3.0: each time
        // there is another explanation.
        ProductConfigurator y = Products.chain();
        y.choose(3, 1);
        y.choose(2, 1);
        Check.equal(2, y.force(0, 0));
        Check.equal("0.0 ", order(y));

        // Of two choices in one explanation only the latest is taken back.
        ProductConfigurator z = Products.fork();
        z.choose(2, 0);
        z.choose(1, 0);
        Check.equal(6, z.whyByChoices(0, 0));
        Check.equal(1, z.force(0, 0));
        Check.equal("2.0 0.0 ", order(z));
        z.reset();
        z.choose(1, 0);
        z.choose(2, 0);
        Check.equal(1, z.force(0, 0));
        Check.equal("1.0 0.0 ", order(z));
    }

    private static void forceOtherChoice() {
        ProductConfigurator x = Products.of(3, 2);
        x.choose(0, 1);
        x.choose(1, 1);
        Check.equal(1, x.force(0, 2));
        Check.equal("1.1 0.2 ", order(x));
        x.addRule(0, 0, 0, 1, 1);
        Check.equal(2, x.force(0, 0));
        Check.equal("0.0 ", order(x));
        Check.equal(0, x.force(1, 0));
        Check.equal("0.0 1.0 ", order(x));
    }

    private static void forceWhatIsChosen() {
        ProductConfigurator x = Products.of(3, 2);
        x.choose(0, 1);
        x.choose(1, 1);
        Check.equal(0, x.force(0, 1));
        Check.equal("0.1 1.1 ", order(x));
    }

    private static void takeDefaults() {
        ProductConfigurator x = Products.of(3, 3, 3);
        x.addDefault(2, 0);
        x.addDefault(0, 1);
        x.addDefault(0, 2);
        x.choose(2, 2);
        Check.equal(1, x.takeDefaults());
        Check.equal("2.2 0.1 ", order(x));
        Check.equal(0, x.takeDefaults());
        x.reset();
        Check.equal(2, x.takeDefaults());
        Check.equal("2.0 0.1 ", order(x));
    }

    private static void takeDefaultsByThen() {
        ProductConfigurator x = Products.of(2, 3);
        x.addRule(0, 0, 0, 1, 0);
        x.addDefault(0, 0);
        x.addDefault(1, 0);
        x.addDefault(1, 2);
        x.addDefault(0, 1);
        Check.equal(2, x.takeDefaults());
        Check.equal("0.0 1.2 ", order(x));
        Check.equal(4, x.dropDefaults());

        ProductConfigurator y = Products.knot();
        y.addDefault(0, 0);
        y.addDefault(2, 1);
        Check.equal(1, y.takeDefaults());
        Check.equal("2.1 ", order(y));
    }

    private static void finish() {
        ProductConfigurator x = Products.knot();
        x.choose(2, 1);
        Check.equal(2, x.finish());
        Check.equal("2.1 0.1 1.0 ", order(x));
        Check.equal(0, x.finish());

        // What is offered hangs on what was chosen before by the same call.
        ProductConfigurator y = Products.of(2, 3, 2);
        y.addRule(0, 0, 0, 1, 0);
        y.addRule(2, 1, 1, 2, 1);
        Check.equal(3, y.finish());
        Check.equal("0.0 1.1 2.1 ", order(y));
    }

    private static void reset() {
        ProductConfigurator x = Products.knot();
        String before = Readings.of(x);
        x.finish();
        x.addDefault(0, 1);
        Check.equal(3, x.reset());
        Check.sameReadings(before, Readings.of(x));
        Check.equal(0, x.reset());
        Check.equal(1, x.dropDefaults());
    }
}
