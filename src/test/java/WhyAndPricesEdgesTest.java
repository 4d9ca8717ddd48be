/** Promises 27 to 33, sentence by sentence: what is empty or full, each edge, each refusal. */
final class WhyAndPricesEdgesTest {
    private static final Class<IndexOutOfBoundsException> INDEX = IndexOutOfBoundsException.class;
    private static final Class<IllegalStateException> STATE = IllegalStateException.class;
    private static final int MIN = Integer.MIN_VALUE;
    private static final int MAX = Integer.MAX_VALUE;

    /** No feature of the knot's three; times five the last one wraps around to a small number. */
    private static final int[] NO_FEATURES = {MIN, -1, 3, 5, 6, 32, MAX, 858993460};

    /** No option of a feature of two; -5 with the second feature would be one of the first. */
    private static final int[] NO_OPTIONS = {MIN, -5, -1, 2, 5, MAX};

    private WhyAndPricesEdgesTest() {
    }

    static void runAll() {
        explanations();
        leftOut();
        explanationRefusals();
        price();
        leastAndGreatest();
        cheapest();
        leastWith();
        leastWithRefusals();
    }

    private static void due(ProductConfigurator x, int feature, int option, int rules,
            int choices) {
        Check.equal(rules, x.whyByRules(feature, option));
        Check.equal(choices, x.whyByChoices(feature, option));
    }

    private static void explanations() {
        Check.test("promises 27, 28: no choices, the rules alone", () ->
                due(States.KNOT.make(), 0, 0, 1 | 8 | 16, 0));
        Check.test("promises 27, 28: the first rule and the first feature's choice", () -> {
            ProductConfigurator x = Products.of(2, 2);
            x.addRule(0, 0, 0, 1, 0);
            x.choose(0, 0);
            due(x, 1, 0, 1, 1);
        });
        Check.test("promises 27, 28: the last of 20 rules, the last feature's choice", () -> {
            ProductConfigurator x = Products.of(2, 2, 2, 2, 2, 2);
            for (int rule = 0; rule < 19; rule++) {
                x.addRule(0, 0, 1, 1, 1);
            }
            x.addRule(0, 0, 0, 5, 0);
            x.choose(5, 0);
            due(x, 0, 0, 1 << 19, 32);
        });
        Check.test("promises 27, 28: 18 of 20 rules are needed", () ->
                due(eighteenSteps(), 0, 0, (1 << 18) - 1, 0));
        Check.test("promises 27, 28: four choices and five rules are all needed", () -> {
            ProductConfigurator x = fiveWays();
            due(x, 0, 0, 31, 2 | 4 | 8 | 16);
            x.withdraw(2);
            Check.refused(STATE, () -> x.whyByRules(0, 0));
            Check.refused(STATE, () -> x.whyByChoices(0, 0));
        });
    }

    /**
     * Each option of the feature 1 leads by steps to one that 0.0 excludes: four times by four
     * rules, once by two. The last two rules say again what the first two say.
     */
    private static ProductConfigurator eighteenSteps() {
        ProductConfigurator x = Products.of(2, 5, 5, 5, 5, 2);
        for (int option = 0; option < 4; option++) {
            for (int feature = 1; feature < 4; feature++) {
                x.addRule(1, feature, option, feature + 1, option);
            }
            x.addRule(0, 4, option, 0, 0);
        }
        x.addRule(1, 1, 4, 5, 0);
        x.addRule(2, 5, 1, 0, 0);
        x.addRule(1, 1, 0, 2, 0);
        x.addRule(1, 2, 0, 3, 0);
        return x;
    }

    /** 0.0 and four choices each exclude another one of the five options of the feature 5. */
    private static ProductConfigurator fiveWays() {
        ProductConfigurator x = Products.of(2, 2, 2, 2, 2, 5);
        for (int feature = 0; feature < 5; feature++) {
            x.addRule(0, feature, 0, 5, feature);
        }
        for (int feature = 4; feature > 0; feature--) {
            x.choose(feature, 0);
        }
        return x;
    }

    /** Of two features, each one and the next, the one's choice is in no way of its options. */
    private static void ownChoice(int feature) {
        int next = (feature + 1) % 6;
        ProductConfigurator x = Products.of(3, 3, 3, 3, 3, 3);
        x.addRule(0, feature, 1, next, 0);
        x.choose(feature, 0);
        x.choose(next, 0);
        due(x, feature, 1, 1, 1 << next);
        Check.refused(STATE, () -> x.whyByRules(feature, 2));
        Check.refused(STATE, () -> x.whyByChoices(feature, 2));
        x.force(feature, 2);
        due(x, feature, 1, 1, 1 << next);
    }

    private static void leftOut() {
        Check.test("promises 27, 28: the own choice of each feature is not regarded", () -> {
            for (int feature = 0; feature < 6; feature++) {
                ownChoice(feature);
            }
        });
        Check.test("promise 27: of rules that say the same the lowest number stays", () -> {
            ProductConfigurator x = Products.of(2, 2);
            for (int rule = 0; rule < 20; rule++) {
                x.addRule(0, rule % 2, 0, 1 - rule % 2, 0);
            }
            x.choose(1, 0);
            for (int rule = 0; rule < 20; rule++) {
                due(x, 0, 0, 1 << rule, 2);
                x.switchRule(rule, false);
            }
            Check.refused(STATE, () -> x.whyByRules(0, 0));
        });
        Check.test("promise 27: rules that are off are in no explanation", () -> {
            ProductConfigurator x = States.KNOT.make();
            x.addRule(0, 0, 0, 1, 0);
            x.switchRule(0, false);
            due(x, 0, 0, 8 | 16 | 32, 0);
        });
        Check.test("promise 28: a choice that is in no way is left out", () -> {
            ProductConfigurator x = Products.of(2, 2, 2, 2, 2, 2);
            x.addRule(0, 0, 0, 3, 0);
            for (int feature = 5; feature > 0; feature--) {
                x.choose(feature, 0);
            }
            due(x, 0, 0, 1, 8);
        });
        Check.test("promise 28: the rules that are left tell which choice stays", () -> {
            ProductConfigurator x = Products.of(2, 2, 2, 2, 2, 2);
            for (int feature = 1; feature < 6; feature++) {
                x.addRule(0, 0, 0, feature, 0);
                x.choose(feature, 0);
            }
            for (int feature = 1; feature < 6; feature++) {
                due(x, 0, 0, 1 << feature - 1, 1 << feature);
                x.withdraw(feature);
            }
            Check.refused(STATE, () -> x.whyByChoices(0, 0));
        });
    }

    private static void explanationRefusals() {
        Check.test("promises 27, 28: no such feature", () -> {
            Check.refused(INDEX, States.KNOT::make, NO_FEATURES, (x, f) -> x.whyByRules(f, 0));
            Check.refused(INDEX, States.KNOT::make, NO_FEATURES, (x, f) -> x.whyByChoices(f, 0));
            Check.refused(INDEX, ProductConfigurator::new, x -> x.whyByRules(0, 0));
            Check.refused(INDEX, ProductConfigurator::new, x -> x.whyByChoices(0, 0));
        });
        Check.test("promises 27, 28: no such option", () -> {
            for (int feature = 0; feature < 3; feature++) {
                int f = feature;
                Check.refused(INDEX, States.KNOT::make, NO_OPTIONS, (x, a) -> x.whyByRules(f, a));
                Check.refused(INDEX, States.KNOT::make, NO_OPTIONS, (x, a) -> x.whyByChoices(f, a));
            }
            Check.refused(INDEX, States.FULL::make, x -> x.whyByRules(5, 5));
            Check.refused(INDEX, States.FULL::make, x -> x.whyByChoices(5, 5));
        });
        Check.test("promises 27, 28: no such feature or option goes first", () -> {
            Check.refused(INDEX, States.TWO_FEATURES::make, x -> x.whyByRules(0, 2));
            Check.refused(INDEX, States.TWO_FEATURES::make, x -> x.whyByChoices(1, 5));
            Check.refused(INDEX, States.FULL_AND_CHOSEN::make, x -> x.whyByRules(6, 0));
            Check.refused(INDEX, States.FULL_AND_CHOSEN::make, x -> x.whyByChoices(0, -1));
        });
        Check.test("promises 27, 28: there is a configuration, as the option is offered", () -> {
            Check.refused(STATE, States.KNOT::make, x -> x.whyByRules(0, 1));
            Check.refused(STATE, States.KNOT::make, x -> x.whyByChoices(0, 1));
            Check.refused(STATE, States.ONE_FEATURE::make, x -> x.whyByRules(0, 0));
            Check.refused(STATE, States.ONE_FEATURE::make, x -> x.whyByChoices(0, 0));
        });
        Check.test("promises 27, 28: there is a configuration, as the option is chosen", () -> {
            for (int feature = 0; feature < 6; feature++) {
                int f = feature;
                Check.refused(STATE, States.FULL_AND_CHOSEN::make,
                        x -> x.whyByRules(f, x.chosen(f)));
                Check.refused(STATE, States.FULL_AND_CHOSEN::make,
                        x -> x.whyByChoices(f, x.chosen(f)));
            }
        });
        Check.test("promises 27, 28: there is a configuration, but for the own choice", () -> {
            Check.refused(STATE, WhyAndPricesEdgesTest::oneChosen, x -> x.whyByRules(0, 0));
            Check.refused(STATE, WhyAndPricesEdgesTest::oneChosen, x -> x.whyByChoices(0, 0));
        });
    }

    private static ProductConfigurator oneChosen() {
        ProductConfigurator x = Products.of(2, 2);
        x.choose(0, 1);
        return x;
    }

    private static void price() {
        Check.test("promise 29: no features, no choice is wanting", () ->
                Check.equal(0, new ProductConfigurator().price()));
        Check.test("promise 29: a choice for every feature", () -> {
            ProductConfigurator x = States.KNOT.make();
            x.finish();
            Check.equal(500, x.price());
        });
        Check.test("promise 29: some feature has no choice, the first, the last, all", () -> {
            Check.refused(STATE, WhyAndPricesEdgesTest::oneChosen, x -> x.price());
            Check.refused(STATE, States.ONE_FEATURE::make, x -> x.price());
            Check.refused(STATE, States.FULL::make, x -> x.price());
            for (int feature = 0; feature < 6; feature++) {
                int f = feature;
                Check.refused(STATE, () -> {
                    ProductConfigurator x = States.FULL_AND_CHOSEN.make();
                    x.withdraw(f);
                    return x;
                }, x -> x.price());
            }
        });
        Check.test("promise 29: a feature that is added has no choice", () -> {
            ProductConfigurator x = States.KNOT.make();
            x.finish();
            x.addFeature(2);
            Check.refused(STATE, () -> x.price());
            x.choose(3, 1);
            Check.equal(500, x.price());
        });
    }

    private static void leastAndGreatest() {
        Check.test("promises 30, 31: no features", () -> {
            Check.equal(0, new ProductConfigurator().leastPrice());
            Check.equal(0, new ProductConfigurator().greatestPrice());
        });
        Check.test("promises 30, 31: one configuration is possible, by rules or by choices", () -> {
            Check.equal(500, States.KNOT.make().leastPrice());
            Check.equal(500, States.KNOT.make().greatestPrice());
            ProductConfigurator x = States.FULL_AND_CHOSEN.make();
            Check.equal(x.price(), x.leastPrice());
            Check.equal(x.price(), x.greatestPrice());
        });
        Check.test("promises 30, 31: the first and the last configuration count", () -> {
            ProductConfigurator x = Products.of(5, 5, 5, 5, 5, 5);
            Check.equal(0, extremes(x, 4, 0));
            Check.equal(6000, x.greatestPrice());
            Check.equal(0, extremes(x, 0, 4));
            Check.equal(6000, x.greatestPrice());
        });
        Check.test("promises 30, 31: as far as it goes up and down", () -> {
            ProductConfigurator x = Products.of(2, 2, 2, 2, 2, 2);
            for (int feature = 0; feature < 6; feature++) {
                x.setPrice(feature, 1, 1000);
            }
            for (int k = 0; k < 10; k++) {
                x.addSurcharge(0, 1, 1, 1, 500);
            }
            Check.equal(11000, x.greatestPrice());
            Check.equal(0, x.leastPrice());
            ProductConfigurator y = Products.of(2, 2);
            for (int k = 0; k < 10; k++) {
                y.addSurcharge(0, k % 2, 1, 1, -500);
            }
            y.choose(1, 1);
            Check.equal(-2500, y.greatestPrice());
            Check.equal(-2500, y.leastPrice());
        });
        Check.test("promises 30, 31: what is not possible does not count", () -> {
            ProductConfigurator x = Products.of(2, 2);
            x.setPrice(0, 1, 10);
            x.setPrice(1, 1, 10);
            x.addRule(2, 0, 0, 1, 1);
            Check.equal(10, x.leastPrice());
            Check.equal(10, x.greatestPrice());
        });
    }

    /** Prices of 1000 for one option of each feature, 0 for another; returns the least price. */
    private static int extremes(ProductConfigurator x, int dear, int cheap) {
        for (int feature = 0; feature < 6; feature++) {
            for (int option = 0; option < 5; option++) {
                x.setPrice(feature, option, option == dear ? 1000 : option == cheap ? 0 : 500);
            }
        }
        return x.leastPrice();
    }

    private static void cheapest() {
        Check.test("promise 32: of several the first one", () -> {
            ProductConfigurator x = Products.of(5, 5, 5, 5, 5, 5);
            for (int feature = 0; feature < 6; feature++) {
                Check.equal(0, x.cheapest(feature));
            }
        });
        Check.test("promise 32: the last option of the first and of the last feature", () -> {
            ProductConfigurator x = Products.of(5, 2, 2, 2, 2, 5);
            for (int option = 0; option < 4; option++) {
                x.setPrice(0, option, 1);
                x.setPrice(5, option, 1);
            }
            Check.equal(4, x.cheapest(0));
            Check.equal(4, x.cheapest(5));
            Check.equal(0, x.cheapest(1));
        });
        Check.test("promise 32: the first one by the lower option of the first feature", () -> {
            // All four cost the same: 5.
            ProductConfigurator x = Products.of(2, 2);
            x.setPrice(0, 0, 5);
            x.setPrice(1, 0, 5);
            x.addSurcharge(0, 1, 1, 1, 5);
            x.addSurcharge(0, 0, 1, 0, -5);
            Check.equal(0, x.cheapest(0));
            Check.equal(0, x.cheapest(1));
            x.addRule(0, 0, 0, 1, 0);
            Check.equal(0, x.cheapest(0));
            Check.equal(1, x.cheapest(1));
            x.setPrice(0, 0, 6);
            Check.equal(1, x.cheapest(0));
            Check.equal(0, x.cheapest(1));
        });
        Check.test("promise 32: the option of the whole configuration, not of the feature", () -> {
            ProductConfigurator x = Products.of(2, 2);
            x.setPrice(0, 1, 10);
            x.addSurcharge(0, 1, 1, 1, -11);
            Check.equal(1, x.cheapest(0));
            Check.equal(1, x.cheapest(1));
            Check.equal(-1, x.leastPrice());
        });
        Check.test("promise 32: a choice for every feature", () -> {
            ProductConfigurator x = States.FULL_AND_CHOSEN.make();
            for (int feature = 0; feature < 6; feature++) {
                Check.equal(x.chosen(feature), x.cheapest(feature));
            }
        });
        Check.test("promise 32: no such feature", () -> {
            Check.refused(INDEX, States.KNOT::make, NO_FEATURES, (x, f) -> x.cheapest(f));
            Check.refused(INDEX, States.FULL::make, x -> x.cheapest(6));
            Check.refused(INDEX, ProductConfigurator::new, x -> x.cheapest(0));
        });
    }

    private static void leastWith() {
        Check.test("promise 33: the first and the last option, first and last feature", () -> {
            ProductConfigurator x = Products.of(5, 2, 2, 2, 2, 5);
            for (int option = 0; option < 5; option++) {
                x.setPrice(0, option, 10 * option);
                x.setPrice(5, option, 1000 - option);
            }
            Check.equal(996, x.leastWith(0, 0));
            Check.equal(1036, x.leastWith(0, 4));
            Check.equal(1000, x.leastWith(5, 0));
            Check.equal(996, x.leastWith(5, 4));
            Check.equal(996, x.leastWith(3, 1));
        });
        Check.test("promise 33: of the option that is chosen it is the least price", () -> {
            ProductConfigurator x = States.FULL_AND_CHOSEN.make();
            for (int feature = 0; feature < 6; feature++) {
                Check.equal(x.price(), x.leastWith(feature, x.chosen(feature)));
            }
        });
        Check.test("promise 33: the choices of the others count", () -> {
            ProductConfigurator x = Products.of(2, 2);
            x.setPrice(1, 1, 30);
            x.addSurcharge(0, 1, 1, 1, -50);
            Check.equal(-20, x.leastWith(0, 1));
            x.choose(1, 0);
            Check.equal(0, x.leastWith(0, 1));
        });
    }

    private static void leastWithRefusals() {
        Check.test("promise 33: no such feature", () -> {
            Check.refused(INDEX, States.KNOT::make, NO_FEATURES, (x, f) -> x.leastWith(f, 0));
            Check.refused(INDEX, States.FULL::make, x -> x.leastWith(6, 0));
            Check.refused(INDEX, ProductConfigurator::new, x -> x.leastWith(0, 0));
        });
        Check.test("promise 33: no such option", () -> {
            for (int feature = 0; feature < 3; feature++) {
                int f = feature;
                Check.refused(INDEX, States.KNOT::make, NO_OPTIONS, (x, a) -> x.leastWith(f, a));
            }
            Check.refused(INDEX, States.FULL::make, x -> x.leastWith(5, 5));
        });
        Check.test("promise 33: no such feature or option goes first", () -> {
            Check.refused(INDEX, States.FULL_AND_CHOSEN::make, x -> x.leastWith(0, 2));
            Check.refused(INDEX, States.FULL_AND_CHOSEN::make, x -> x.leastWith(6, 0));
        });
        Check.test("promise 33: the option is not offered by rules, though it remains", () -> {
            Check.refused(STATE, States.KNOT::make, x -> x.leastWith(0, 0));
            Check.refused(STATE, States.KNOT::make, x -> x.leastWith(2, 0));
            Check.refused(STATE, States.FULL::make, x -> x.leastWith(1, 4));
        });
        Check.test("promise 33: the option is not offered, as another one is chosen", () -> {
            Check.refused(STATE, WhyAndPricesEdgesTest::oneChosen, x -> x.leastWith(0, 0));
            for (int feature = 0; feature < 6; feature++) {
                int f = feature;
                Check.refused(STATE, States.FULL_AND_CHOSEN::make,
                        x -> x.leastWith(f, x.chosen(f) == 0 ? 1 : 0));
            }
        });
    }
}
