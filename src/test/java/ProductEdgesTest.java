/** Promises 1 to 8, sentence by sentence: what is empty or full, each edge, each refusal. */
final class ProductEdgesTest {
    private static final Class<IndexOutOfBoundsException> INDEX = IndexOutOfBoundsException.class;
    private static final Class<IllegalArgumentException> ARGUMENT = IllegalArgumentException.class;
    private static final Class<IllegalStateException> STATE = IllegalStateException.class;
    private static final int MIN = Integer.MIN_VALUE;
    private static final int MAX = Integer.MAX_VALUE;

    /** No feature of a product of two; times five the last one wraps around to a small number. */
    private static final int[] NO_FEATURES = {MIN, -1, 2, 5, 6, MAX, 858993460};

    /** No option of a feature of two; -5 with the second feature would be one of the first. */
    private static final int[] NO_OPTIONS = {MIN, -5, -1, 2, 5, MAX};

    private ProductEdgesTest() {
    }

    static void runAll() {
        newObject();
        addFeature();
        addRuleEdges();
        addRuleRefusals();
        addRuleWhenFull();
        switchRule();
        setPrice();
        addSurchargeEdges();
        addSurchargeRefusals();
        addDefault();
        dropDefaults();
    }

    private static ProductConfigurator two() {
        return Products.of(2, 2);
    }

    private static void newObject() {
        Check.test("promise 1: no features", () -> {
            ProductConfigurator x = new ProductConfigurator();
            Check.equal(0, x.features());
            Check.refused(INDEX, () -> x.options(0));
            Check.equal(0, x.addFeature(2));
        });
        Check.test("promise 1: no rules", () -> {
            ProductConfigurator x = new ProductConfigurator();
            Check.equal(0, x.rules());
            Check.refused(INDEX, () -> x.isOn(0));
            Check.refused(INDEX, () -> x.switchRule(0, false));
        });
        Check.test("promise 1: no surcharges", () -> {
            ProductConfigurator x = two();
            Check.equal(0, x.leastPrice());
            Check.equal(0, x.greatestPrice());
            Check.equal(1, x.addSurcharge(0, 0, 1, 0, 1));
        });
        Check.test("promise 1: no defaults", () -> {
            Check.equal(0, new ProductConfigurator().dropDefaults());
            Check.equal(0, new ProductConfigurator().takeDefaults());
            Check.equal(0, two().takeDefaults());
            Check.equal(1, two().addDefault(0, 0));
        });
        Check.test("promise 1: no choices", () -> {
            ProductConfigurator x = new ProductConfigurator();
            Check.equal(0, x.choices());
            Check.refused(INDEX, () -> x.choiceAt(0));
            Check.equal(0, x.reset());
            Check.equal(-1, two().chosen(0));
        });
        Check.test("promise 1: a new object knows nothing of another one", () -> {
            String before = Readings.whole(new ProductConfigurator());
            Readings.whole(States.FULL_AND_CHOSEN.make());
            Check.sameReadings(before, Readings.whole(new ProductConfigurator()));
        });
    }

    private static void addFeature() {
        Check.test("promise 2: 2 options are the fewest", () -> {
            ProductConfigurator x = new ProductConfigurator();
            Check.equal(0, x.addFeature(2));
            Check.equal(2, x.options(0));
            Check.refused(ARGUMENT, ProductConfigurator::new, new int[] {1, 0, -1, MIN},
                    (y, options) -> y.addFeature(options));
        });
        Check.test("promise 2: 5 options are the most", () -> {
            ProductConfigurator x = new ProductConfigurator();
            Check.equal(0, x.addFeature(5));
            Check.equal(5, x.options(0));
            Check.refused(ARGUMENT, ProductConfigurator::new, new int[] {6, 7, 32, MAX},
                    (y, options) -> y.addFeature(options));
        });
        Check.test("promise 2: the sixth feature is the last one", () -> {
            ProductConfigurator x = Products.of(2, 2, 2, 2, 2);
            Check.equal(5, x.addFeature(5));
            Check.equal(6, x.features());
            Check.refused(STATE, States.FULL::make, new int[] {2, 3, 4, 5},
                    (y, options) -> y.addFeature(options));
            Check.refused(STATE, States.FULL_AND_CHOSEN::make, y -> y.addFeature(2));
        });
        Check.test("promise 2: options out of range go before too many features", () ->
                Check.refused(ARGUMENT, States.FULL::make, new int[] {MIN, 1, 6, MAX},
                        (y, options) -> y.addFeature(options)));
    }

    private static void addRuleEdges() {
        Check.test("promise 3: kinds 0, 1 and 2 are all", () -> {
            for (int kind = 0; kind <= 2; kind++) {
                ProductConfigurator x = two();
                Check.equal(0, x.addRule(kind, 0, 0, 1, 0));
                Check.equal(true, x.isOn(0));
            }
            Check.refused(ARGUMENT, ProductEdgesTest::two, new int[] {MIN, -1, 3, MAX},
                    (x, kind) -> x.addRule(kind, 0, 0, 1, 0));
        });
        Check.test("promise 3: returns the number of the rule, from 0 to 19", () -> {
            ProductConfigurator x = two();
            for (int rule = 0; rule < 20; rule++) {
                Check.equal(rule, x.addRule(rule % 2, 0, rule % 2, 1, rule % 2));
                Check.equal(rule + 1, x.rules());
            }
        });
        Check.test("promise 3: a new rule is on, whatever the ones before are", () -> {
            ProductConfigurator x = two();
            x.addRule(0, 0, 0, 1, 0);
            x.switchRule(0, false);
            Check.equal(1, x.addRule(0, 0, 0, 1, 0));
            Check.equal(false, x.isOn(0));
            Check.equal(true, x.isOn(1));
            Check.equal(3, x.count());
        });
        Check.test("promise 3: the first and the last option of each feature", () -> {
            ProductConfigurator x = Products.of(5, 2, 2, 2, 2, 5);
            Check.equal(0, x.addRule(0, 0, 0, 5, 4));
            Check.equal(1, x.addRule(0, 5, 0, 0, 4));
            Check.equal(23 * 16, x.count());
            x.choose(0, 0);
            Check.equal(15, x.offered(5));
            x.force(0, 4);
            Check.equal(30, x.offered(5));
        });
    }

    private static void addRuleRefusals() {
        Check.test("promise 3: no such feature", () -> {
            Check.refused(INDEX, ProductEdgesTest::two, NO_FEATURES,
                    (x, feature) -> x.addRule(0, feature, 0, 1, 0));
            Check.refused(INDEX, ProductEdgesTest::two, NO_FEATURES,
                    (x, other) -> x.addRule(0, 0, 0, other, 0));
            Check.refused(INDEX, ProductConfigurator::new, x -> x.addRule(0, 0, 0, 1, 0));
            Check.refused(INDEX, States.ONE_FEATURE::make, x -> x.addRule(0, 0, 0, 1, 0));
        });
        Check.test("promise 3: no such option", () -> {
            for (int feature = 0; feature < 2; feature++) {
                int f = feature;
                Check.refused(INDEX, ProductEdgesTest::two, NO_OPTIONS,
                        (x, option) -> x.addRule(0, f, option, 1 - f, 0));
                Check.refused(INDEX, ProductEdgesTest::two, NO_OPTIONS,
                        (x, option) -> x.addRule(0, f, 0, 1 - f, option));
            }
            Check.refused(INDEX, States.TWO_FEATURES::make, x -> x.addRule(0, 1, 5, 0, 0));
            Check.refused(INDEX, States.TWO_FEATURES::make, x -> x.addRule(0, 0, 0, 1, 5));
        });
        Check.test("promise 3: both features are the same", () -> {
            Check.refused(ARGUMENT, ProductEdgesTest::two, x -> x.addRule(0, 0, 0, 0, 1));
            Check.refused(ARGUMENT, ProductEdgesTest::two, x -> x.addRule(1, 1, 1, 1, 1));
            Check.refused(ARGUMENT, States.FULL::make, x -> x.addRule(2, 5, 4, 5, 4));
        });
        Check.test("promise 3: no configuration would be possible by the rules", () -> {
            Check.refused(STATE, States.KNOT::make, x -> x.addRule(0, 0, 1, 1, 0));
            Check.refused(STATE, States.KNOT::make, x -> x.addRule(1, 0, 1, 1, 1));
            Check.refused(STATE, States.KNOT::make, x -> x.addRule(2, 2, 0, 1, 0));
        });
        Check.test("promise 3: no configuration would be possible with the choices", () -> {
            Check.refused(STATE, ProductEdgesTest::chosenTwo, x -> x.addRule(0, 0, 0, 1, 1));
            Check.refused(STATE, ProductEdgesTest::chosenTwo, x -> x.addRule(1, 1, 1, 0, 1));
            Check.refused(STATE, ProductEdgesTest::chosenTwo, x -> x.addRule(2, 0, 0, 1, 0));
        });
    }

    private static ProductConfigurator chosenTwo() {
        ProductConfigurator x = two();
        x.choose(0, 0);
        x.choose(1, 1);
        return x;
    }

    private static void addRuleWhenFull() {
        Check.test("promise 3: the twentieth rule is the last one", () -> {
            ProductConfigurator x = States.ALMOST_FULL.make();
            Check.equal(19, x.addRule(0, 0, 0, 1, 4));
            Check.equal(20, x.rules());
            Check.refused(STATE, () -> x.addRule(0, 0, 0, 1, 4));
            Check.refused(STATE, States.FULL::make, y -> y.addRule(0, 0, 0, 1, 4));
        });
        Check.test("promise 3: rules that are off take room, too", () ->
                Check.refused(STATE, States.RULES_OFF::make, x -> x.addRule(0, 0, 0, 1, 4)));
        Check.test("promise 3: no such feature or option goes first", () -> {
            Check.refused(INDEX, States.FULL::make, x -> x.addRule(3, 6, 0, 6, 0));
            Check.refused(INDEX, States.FULL::make, x -> x.addRule(-1, 0, 2, 0, 0));
            Check.refused(INDEX, States.FULL::make, x -> x.addRule(3, 1, 0, 0, 2));
            Check.refused(INDEX, States.FULL::make, x -> x.addRule(0, 0, 0, 0, 2));
        });
        Check.test("promise 3: kind and same features go before all that is full", () -> {
            Check.refused(ARGUMENT, States.FULL::make, x -> x.addRule(3, 0, 0, 1, 4));
            Check.refused(ARGUMENT, States.FULL::make, x -> x.addRule(MIN, 0, 0, 0, 0));
            Check.refused(ARGUMENT, States.FULL::make, x -> x.addRule(0, 1, 0, 1, 4));
        });
        Check.test("promise 3: kind and same features go before what is not possible", () -> {
            Check.refused(ARGUMENT, States.KNOT::make, x -> x.addRule(3, 0, 1, 1, 0));
            Check.refused(ARGUMENT, States.KNOT::make, x -> x.addRule(-1, 0, 1, 1, 0));
            Check.refused(ARGUMENT, States.KNOT::make, x -> x.addRule(2, 0, 0, 0, 1));
        });
    }

    private static void switchRule() {
        Check.test("promise 4: returns whether it was on", () -> {
            ProductConfigurator x = States.FULL.make();
            for (int rule : new int[] {0, 19}) {
                Check.equal(true, x.switchRule(rule, true));
                Check.equal(true, x.switchRule(rule, false));
                Check.equal(false, x.switchRule(rule, false));
                Check.equal(false, x.switchRule(rule, true));
                Check.equal(true, x.isOn(rule));
            }
        });
        Check.test("promise 4: the other rules stay as they are", () -> {
            ProductConfigurator x = States.FULL.make();
            x.switchRule(0, false);
            x.switchRule(4, true);
            x.switchRule(19, false);
            boolean[] due = {false, true, true, true, true, true, true, true, true, true, false,
                true, true, false, true, true, false, false, true, false};
            for (int rule = 0; rule < 20; rule++) {
                Check.equal(due[rule], x.isOn(rule));
            }
        });
        Check.test("promise 4: no such rule", () -> {
            int[] wrong = {MIN, -1, 5, 20, 32, 33, MAX};
            Check.refused(INDEX, States.KNOT::make, wrong, (x, rule) -> x.switchRule(rule, true));
            Check.refused(INDEX, States.KNOT::make, wrong, (x, rule) -> x.switchRule(rule, false));
            Check.refused(INDEX, States.FULL::make, x -> x.switchRule(20, false));
            Check.refused(INDEX, ProductEdgesTest::two, x -> x.switchRule(0, false));
        });
        Check.test("promise 4: no configuration would be possible with the choices", () ->
                Check.refused(STATE, ProductEdgesTest::chosenWhileOff, x -> x.switchRule(0, true)));
        Check.test("promise 4: what would not be possible may be off, and stays off", () -> {
            ProductConfigurator x = chosenWhileOff();
            Check.equal(false, x.switchRule(0, false));
            Check.refused(STATE, () -> x.switchRule(0, true));
            Check.equal(false, x.isOn(0));
            x.withdraw(1);
            Check.equal(false, x.switchRule(0, true));
            Check.equal(1, x.offered(1));
        });
    }

    private static ProductConfigurator chosenWhileOff() {
        ProductConfigurator x = two();
        x.addRule(0, 0, 0, 1, 1);
        x.switchRule(0, false);
        x.choose(0, 0);
        x.choose(1, 1);
        return x;
    }

    private static ProductConfigurator priced() {
        ProductConfigurator x = two();
        x.setPrice(0, 1, 7);
        return x;
    }

    private static void setPrice() {
        Check.test("promise 5: 0 is the least price", () -> {
            ProductConfigurator x = two();
            x.setPrice(0, 0, 1);
            Check.equal(1, x.setPrice(0, 0, 0));
            Check.equal(0, x.setPrice(0, 0, 0));
            Check.refused(ARGUMENT, ProductEdgesTest::priced, new int[] {-1, -1000, MIN},
                    (y, price) -> y.setPrice(0, 1, price));
        });
        Check.test("promise 5: 1000 is the greatest price", () -> {
            ProductConfigurator x = two();
            Check.equal(0, x.setPrice(1, 1, 1000));
            Check.equal(1000, x.greatestPrice());
            Check.equal(1000, x.setPrice(1, 1, 999));
            Check.refused(ARGUMENT, ProductEdgesTest::priced, new int[] {1001, 1 << 16, MAX},
                    (y, price) -> y.setPrice(0, 1, price));
        });
        Check.test("promise 5: each option has a price of its own, which is returned", () -> {
            ProductConfigurator x = Products.of(5, 5, 5, 5, 5, 5);
            for (int slot = 0; slot < 30; slot++) {
                Check.equal(0, x.setPrice(slot / 5, slot % 5, 900 + slot));
            }
            for (int slot = 0; slot < 30; slot++) {
                Check.equal(900 + slot, x.setPrice(slot / 5, slot % 5, 0));
            }
        });
        Check.test("promise 5: no such feature or option", () -> {
            Check.refused(INDEX, ProductEdgesTest::two, NO_FEATURES,
                    (x, feature) -> x.setPrice(feature, 0, 1));
            Check.refused(INDEX, ProductEdgesTest::two, NO_OPTIONS,
                    (x, option) -> x.setPrice(1, option, 1));
            Check.refused(INDEX, States.FULL::make, x -> x.setPrice(6, 0, 1));
            Check.refused(INDEX, States.FULL::make, x -> x.setPrice(5, 5, 1));
            Check.refused(INDEX, ProductConfigurator::new, x -> x.setPrice(0, 0, 0));
        });
        Check.test("promise 5: no such feature or option goes first", () -> {
            Check.refused(INDEX, ProductEdgesTest::two, x -> x.setPrice(2, 0, 1001));
            Check.refused(INDEX, ProductEdgesTest::two, x -> x.setPrice(0, 2, -1));
        });
    }

    private static void addSurchargeEdges() {
        Check.test("promise 6: -500 is the least amount", () -> {
            ProductConfigurator x = two();
            Check.equal(1, x.addSurcharge(0, 0, 1, 1, -500));
            Check.equal(-500, x.leastPrice());
            Check.refused(ARGUMENT, ProductEdgesTest::two, new int[] {-501, -1000, MIN},
                    (y, amount) -> y.addSurcharge(0, 0, 1, 1, amount));
        });
        Check.test("promise 6: 500 is the greatest amount", () -> {
            ProductConfigurator x = two();
            Check.equal(1, x.addSurcharge(1, 0, 0, 1, 500));
            Check.equal(500, x.greatestPrice());
            Check.refused(ARGUMENT, ProductEdgesTest::two, new int[] {501, 1000, MAX},
                    (y, amount) -> y.addSurcharge(0, 0, 1, 1, amount));
        });
        Check.test("promise 6: 0 is an amount, and takes room like others", () -> {
            ProductConfigurator x = two();
            for (int k = 1; k <= 10; k++) {
                Check.equal(k, x.addSurcharge(0, 0, 1, 1, 0));
            }
            Check.refused(STATE, () -> x.addSurcharge(0, 0, 1, 1, 0));
        });
        Check.test("promise 6: the tenth surcharge is the last one", () -> {
            ProductConfigurator x = States.ALMOST_FULL.make();
            Check.equal(10, x.addSurcharge(0, 0, 4, 1, 100));
            Check.refused(STATE, () -> x.addSurcharge(0, 0, 4, 1, 100));
            Check.refused(STATE, States.FULL::make, y -> y.addSurcharge(0, 0, 4, 1, 100));
            Check.refused(STATE, States.FULL::make, y -> y.addSurcharge(1, 0, 0, 0, -500));
        });
        Check.test("promise 6: the first and the last option of each feature", () -> {
            ProductConfigurator x = Products.of(5, 2, 2, 2, 2, 5);
            x.addSurcharge(0, 0, 5, 4, 3);
            x.addSurcharge(5, 0, 0, 4, 4);
            x.choose(0, 0);
            Check.equal(3, x.leastWith(5, 4));
            Check.equal(0, x.leastWith(5, 0));
            x.force(0, 4);
            Check.equal(0, x.leastWith(5, 4));
            Check.equal(4, x.leastWith(5, 0));
        });
    }

    private static void addSurchargeRefusals() {
        Check.test("promise 6: no such feature", () -> {
            Check.refused(INDEX, ProductEdgesTest::two, NO_FEATURES,
                    (x, feature) -> x.addSurcharge(feature, 0, 1, 0, 1));
            Check.refused(INDEX, ProductEdgesTest::two, NO_FEATURES,
                    (x, other) -> x.addSurcharge(0, 0, other, 0, 1));
            Check.refused(INDEX, ProductConfigurator::new, x -> x.addSurcharge(0, 0, 1, 0, 1));
            Check.refused(INDEX, States.ONE_FEATURE::make, x -> x.addSurcharge(0, 0, 1, 0, 1));
        });
        Check.test("promise 6: no such option", () -> {
            for (int feature = 0; feature < 2; feature++) {
                int f = feature;
                Check.refused(INDEX, ProductEdgesTest::two, NO_OPTIONS,
                        (x, option) -> x.addSurcharge(f, option, 1 - f, 0, 1));
                Check.refused(INDEX, ProductEdgesTest::two, NO_OPTIONS,
                        (x, option) -> x.addSurcharge(f, 0, 1 - f, option, 1));
            }
        });
        Check.test("promise 6: both features are the same", () -> {
            Check.refused(ARGUMENT, ProductEdgesTest::two, x -> x.addSurcharge(0, 0, 0, 1, 1));
            Check.refused(ARGUMENT, ProductEdgesTest::two, x -> x.addSurcharge(1, 1, 1, 1, 0));
            Check.refused(ARGUMENT, States.ALMOST_FULL::make, x -> x.addSurcharge(4, 0, 4, 1, 1));
        });
        Check.test("promise 6: no such feature or option goes first", () -> {
            Check.refused(INDEX, States.FULL::make, x -> x.addSurcharge(6, 0, 6, 0, 501));
            Check.refused(INDEX, States.FULL::make, x -> x.addSurcharge(0, 0, 0, 2, 1));
            Check.refused(INDEX, States.FULL::make, x -> x.addSurcharge(0, 2, 1, 0, -501));
            Check.refused(INDEX, ProductEdgesTest::two, x -> x.addSurcharge(0, 0, 1, 2, 501));
        });
        Check.test("promise 6: same features and amount go before too many surcharges", () -> {
            Check.refused(ARGUMENT, States.FULL::make, x -> x.addSurcharge(0, 0, 0, 1, 1));
            Check.refused(ARGUMENT, States.FULL::make, x -> x.addSurcharge(0, 0, 1, 0, 501));
            Check.refused(ARGUMENT, States.FULL::make, x -> x.addSurcharge(0, 0, 1, 0, -501));
            Check.refused(ARGUMENT, States.FULL::make, x -> x.addSurcharge(0, 0, 0, 0, MAX));
        });
    }

    private static void addDefault() {
        Check.test("promise 7: the twelfth default is the last one", () -> {
            ProductConfigurator x = States.ALMOST_FULL.make();
            Check.equal(12, x.addDefault(4, 1));
            Check.refused(STATE, () -> x.addDefault(4, 1));
            Check.equal(12, x.dropDefaults());
            Check.refused(STATE, States.FULL::make, y -> y.addDefault(5, 0));
            Check.refused(STATE, States.FULL::make, y -> y.addDefault(0, 0));
        });
        Check.test("promise 7: returns how many there are then", () -> {
            ProductConfigurator x = two();
            for (int k = 1; k <= 12; k++) {
                Check.equal(k, x.addDefault(k % 2, k / 2 % 2));
            }
        });
        Check.test("promise 7: behind those that are there, the twelfth behind all", () -> {
            ProductConfigurator x = Products.of(2, 2);
            for (int k = 0; k < 11; k++) {
                x.addDefault(1, k < 1 ? 1 : 0);
            }
            x.addDefault(0, 1);
            Check.equal(2, x.takeDefaults());
            Check.equal(1, x.choiceAt(0));
            Check.equal(1, x.chosen(1));
            Check.equal(1, x.chosen(0));
        });
        Check.test("promise 7: any option may be wished, offered or not, chosen or not", () -> {
            ProductConfigurator x = States.KNOT.make();
            x.choose(0, 1);
            Check.equal(1, x.addDefault(0, 0));
            Check.equal(2, x.addDefault(0, 0));
            Check.equal(3, x.addDefault(0, 1));
            Check.equal(1, x.choices());
        });
        Check.test("promise 7: no such feature or option", () -> {
            Check.refused(INDEX, ProductEdgesTest::two, NO_FEATURES,
                    (x, feature) -> x.addDefault(feature, 0));
            Check.refused(INDEX, ProductEdgesTest::two, NO_OPTIONS,
                    (x, option) -> x.addDefault(1, option));
            Check.refused(INDEX, ProductConfigurator::new, x -> x.addDefault(0, 0));
        });
        Check.test("promise 7: no such feature or option goes first", () -> {
            Check.refused(INDEX, States.FULL::make, x -> x.addDefault(6, 0));
            Check.refused(INDEX, States.FULL::make, x -> x.addDefault(0, 2));
            Check.refused(INDEX, States.FULL::make, x -> x.addDefault(-1, -1));
        });
    }

    private static void dropDefaults() {
        Check.test("promise 8: none to drop", () -> {
            Check.equal(0, new ProductConfigurator().dropDefaults());
            Check.equal(0, two().dropDefaults());
        });
        Check.test("promise 8: all 12 are dropped, and there is room for 12 again", () -> {
            ProductConfigurator x = States.FULL.make();
            Check.equal(12, x.dropDefaults());
            Check.equal(0, x.dropDefaults());
            Check.equal(0, x.takeDefaults());
            for (int k = 1; k <= 12; k++) {
                Check.equal(k, x.addDefault(5, 0));
            }
            Check.refused(STATE, () -> x.addDefault(5, 0));
            Check.equal(1, x.takeDefaults());
            Check.equal(0, x.chosen(5));
        });
        Check.test("promise 8: the choices that were made of them stay", () -> {
            ProductConfigurator x = States.FULL.make();
            int taken = x.takeDefaults();
            String before = Readings.of(x);
            Check.equal(12, x.dropDefaults());
            Check.equal(taken, x.choices());
            Check.sameReadings(before, Readings.of(x));
        });
    }
}
