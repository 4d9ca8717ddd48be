/** Promises 27 and 28: explanations. */
final class WhyTest {
    private static final Class<IllegalStateException> STATE = IllegalStateException.class;

    private WhyTest() {
    }

    static void runAll() {
        Check.test("promises 27, 28: by rules alone", WhyTest::byRulesAlone);
        Check.test("promises 27, 28: rules by falling numbers", WhyTest::rulesByFallingNumbers);
        Check.test("promises 27, 28: choices from the latest", WhyTest::choicesFromTheLatest);
        Check.test("promises 27, 28: only rules that are on", WhyTest::onlyRulesThatAreOn);
        Check.test("promises 27, 28: the own choice is not regarded", WhyTest::ownChoice);
    }

    private static void due(ProductConfigurator x, int feature, int option, int rules,
            int choices) {
        Check.equal(rules, x.whyByRules(feature, option));
        Check.equal(choices, x.whyByChoices(feature, option));
    }

    private static void byRulesAlone() {
        ProductConfigurator x = Products.knot();
        due(x, 0, 0, 1 | 8 | 16, 0);
        due(x, 1, 1, 2 | 8 | 16, 0);
        x.choose(1, 0);
        x.choose(2, 1);
        // Rules go first, so that with the choices fewer of them are needed.
        due(x, 0, 0, 1, 2);
    }

    private static void rulesByFallingNumbers() {
        ProductConfigurator x = Products.of(2, 2);
        for (int rule = 0; rule < 20; rule++) {
            x.addRule(rule % 2, 0, 0, 1, rule % 2);
        }
        x.choose(1, 0);
        due(x, 0, 0, 1, 2);
        x.switchRule(0, false);
        due(x, 0, 0, 2, 2);
        for (int rule = 1; rule < 19; rule++) {
            x.switchRule(rule, false);
        }
        due(x, 0, 0, 1 << 19, 2);
    }

    private static void choicesFromTheLatest() {
        // 0.0 requires 1.0, which requires 2.0: 1.1 as well as 2.1 stands against it.
        ProductConfigurator x = Products.of(2, 2, 2, 2, 2, 2);
        x.addRule(1, 5, 0, 1, 0);
        x.addRule(2, 1, 0, 2, 0);
        x.choose(3, 0);
        x.choose(2, 1);
        x.choose(4, 0);
        x.choose(1, 1);
        due(x, 5, 0, 1, 2);
        x.withdraw(1);
        due(x, 5, 0, 3, 4);
        x.choose(1, 1);
        x.withdraw(2);
        x.choose(2, 1);
        due(x, 5, 0, 1, 2);

        // Two requirements of 1.0 that cannot both be kept: the latest choice is left out, if
        // what is chosen before says enough.
        ProductConfigurator y = Products.of(2, 2, 2, 3);
        y.addRule(1, 0, 0, 3, 0);
        y.addRule(1, 1, 0, 3, 1);
        y.addRule(1, 2, 0, 3, 1);
        y.choose(1, 0);
        y.choose(2, 0);
        due(y, 0, 0, 3, 2);
        y.reset();
        y.choose(2, 0);
        y.choose(1, 0);
        due(y, 0, 0, 3, 2);
        y.switchRule(1, false);
        due(y, 0, 0, 5, 4);
        due(y, 3, 0, 4, 4);

        // Either of two choices would do by the same rules: the later one is left out.
        ProductConfigurator z = Products.of(2, 2, 2, 2);
        z.addRule(1, 0, 0, 1, 0);
        z.addRule(2, 1, 0, 2, 0);
        z.addRule(2, 2, 0, 3, 0);
        z.choose(3, 1);
        z.choose(2, 1);
        due(z, 0, 0, 3, 4);
        z.withdraw(2);
        due(z, 0, 0, 7, 8);

        // It takes two choices.
        ProductConfigurator w = Products.fork();
        w.choose(2, 0);
        w.choose(1, 0);
        due(w, 0, 0, 7, 2 | 4);
    }

    private static void onlyRulesThatAreOn() {
        ProductConfigurator x = Products.of(2, 2);
        x.addRule(0, 0, 0, 1, 0);
        x.addRule(0, 0, 0, 1, 0);
        x.addRule(0, 0, 0, 1, 0);
        x.switchRule(0, false);
        x.choose(1, 0);
        due(x, 0, 0, 2, 2);
        x.switchRule(1, false);
        due(x, 0, 0, 4, 2);
        x.switchRule(2, false);
        Check.refused(STATE, () -> x.whyByRules(0, 0));
        Check.refused(STATE, () -> x.whyByChoices(0, 0));
    }

    private static void ownChoice() {
        ProductConfigurator x = Products.of(3, 2);
        x.addRule(0, 0, 1, 1, 0);
        x.choose(0, 0);
        x.choose(1, 0);
        // Option 2 is not offered, as 0 is chosen; but its own choice is no reason.
        Check.refused(STATE, () -> x.whyByRules(0, 2));
        Check.refused(STATE, () -> x.whyByChoices(0, 2));
        Check.refused(STATE, () -> x.whyByRules(0, 0));
        due(x, 0, 1, 1, 2);
        Check.refused(STATE, () -> x.whyByRules(1, 1));
    }
}
