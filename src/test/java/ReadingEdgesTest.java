/** Promises 15 to 26, sentence by sentence: what is empty or full, each edge, each refusal. */
final class ReadingEdgesTest {
    private static final Class<IndexOutOfBoundsException> INDEX = IndexOutOfBoundsException.class;
    private static final int MIN = Integer.MIN_VALUE;
    private static final int MAX = Integer.MAX_VALUE;

    /** No feature of a product of two. */
    private static final int[] NO_FEATURES = {MIN, -1, 2, 5, 6, 31, 32, 33, MAX, 858993460};

    /** No feature, no rule and no choice when all is full. */
    private static final int[] BEYOND_SIX = {MIN, -1, 6, 32, MAX};

    private ReadingEdgesTest() {
    }

    static void runAll() {
        numbers();
        options();
        isOn();
        choiceAt();
        chosen();
        remaining();
        offered();
        counts();
        nodes();
        readingChangesNothing();
    }

    private static ProductConfigurator two() {
        return Products.of(2, 2);
    }

    private static void numbers() {
        Check.test("promise 15: features, none to six", () -> {
            ProductConfigurator x = new ProductConfigurator();
            Check.equal(0, x.features());
            for (int feature = 1; feature <= 6; feature++) {
                x.addFeature(5);
                Check.equal(feature, x.features());
            }
        });
        Check.test("promise 17: rules, none to twenty, on or off", () -> {
            ProductConfigurator x = two();
            Check.equal(0, x.rules());
            for (int rule = 1; rule <= 20; rule++) {
                x.addRule(0, 0, 0, 1, 0);
                Check.equal(rule, x.rules());
                x.switchRule(rule - 1, false);
                Check.equal(rule, x.rules());
            }
        });
        Check.test("promise 19: choices, none to six", () -> {
            ProductConfigurator x = Products.of(2, 2, 2, 2, 2, 2);
            Check.equal(0, x.choices());
            for (int feature = 0; feature < 6; feature++) {
                x.choose(feature, 0);
                Check.equal(feature + 1, x.choices());
            }
            for (int feature = 0; feature < 6; feature++) {
                x.withdraw(feature);
                Check.equal(5 - feature, x.choices());
            }
        });
    }

    private static void options() {
        Check.test("promise 16: 2 to 5 options, of the first and of the last feature", () -> {
            ProductConfigurator x = Products.of(2, 3, 4, 5, 5, 2);
            int[] due = {2, 3, 4, 5, 5, 2};
            for (int feature = 0; feature < 6; feature++) {
                Check.equal(due[feature], x.options(feature));
            }
        });
        Check.test("promise 16: choices and rules leave the number of options", () -> {
            ProductConfigurator x = States.FULL_AND_CHOSEN.make();
            Check.equal(5, x.options(1));
            Check.equal(5, x.options(5));
        });
        Check.test("promise 16: no such feature", () -> {
            Check.refused(INDEX, ReadingEdgesTest::two, NO_FEATURES, (x, f) -> x.options(f));
            Check.refused(INDEX, States.FULL::make, BEYOND_SIX, (x, f) -> x.options(f));
            Check.refused(INDEX, ProductConfigurator::new, x -> x.options(0));
        });
    }

    private static void isOn() {
        Check.test("promise 18: the first and the last of twenty, on and off", () -> {
            ProductConfigurator x = States.FULL.make();
            Check.equal(true, x.isOn(0));
            Check.equal(true, x.isOn(19));
            x.switchRule(19, false);
            Check.equal(true, x.isOn(0));
            Check.equal(false, x.isOn(19));
            x.switchRule(0, false);
            x.switchRule(19, true);
            Check.equal(false, x.isOn(0));
            Check.equal(true, x.isOn(19));
        });
        Check.test("promise 18: no such rule", () -> {
            Check.refused(INDEX, States.FULL::make, new int[] {MIN, -1, 20, 32, 51, MAX},
                    (x, rule) -> x.isOn(rule));
            Check.refused(INDEX, States.KNOT::make, new int[] {MIN, -1, 5, 20, 32, MAX},
                    (x, rule) -> x.isOn(rule));
            Check.refused(INDEX, ReadingEdgesTest::two, x -> x.isOn(0));
            Check.refused(INDEX, ProductConfigurator::new, x -> x.isOn(0));
        });
    }

    private static void choiceAt() {
        Check.test("promise 20: the first and the last of six", () -> {
            ProductConfigurator x = Products.of(2, 2, 2, 2, 2, 2);
            for (int feature = 5; feature >= 0; feature--) {
                x.choose(feature, 0);
            }
            Check.equal(5, x.choiceAt(0));
            Check.equal(0, x.choiceAt(5));
        });
        Check.test("promise 20: no such choice", () -> {
            Check.refused(INDEX, States.FULL_WITH_CHOICES::make, new int[] {MIN, -1, 2, 5, 6, MAX},
                    (x, k) -> x.choiceAt(k));
            Check.refused(INDEX, States.FULL_AND_CHOSEN::make, BEYOND_SIX,
                    (x, k) -> x.choiceAt(k));
            Check.refused(INDEX, States.FULL::make, x -> x.choiceAt(0));
            Check.refused(INDEX, ProductConfigurator::new, x -> x.choiceAt(0));
        });
        Check.test("promise 20: a choice that was taken back is there no more", () -> {
            ProductConfigurator x = two();
            x.choose(0, 0);
            x.choose(1, 0);
            x.withdraw(0);
            Check.equal(1, x.choiceAt(0));
            Check.refused(INDEX, () -> x.choiceAt(1));
            x.reset();
            Check.refused(INDEX, () -> x.choiceAt(0));
        });
    }

    private static void chosen() {
        Check.test("promise 21: the first and the last option", () -> {
            ProductConfigurator x = Products.of(5, 2, 2, 2, 2, 5);
            x.choose(0, 0);
            x.choose(5, 4);
            Check.equal(0, x.chosen(0));
            Check.equal(4, x.chosen(5));
        });
        Check.test("promise 21: -1 without a choice, before it and after it", () -> {
            ProductConfigurator x = Products.of(2, 2, 2);
            x.choose(1, 1);
            Check.equal(-1, x.chosen(0));
            Check.equal(-1, x.chosen(2));
            x.withdraw(1);
            Check.equal(-1, x.chosen(1));
            x.choose(0, 0);
            x.reset();
            Check.equal(-1, x.chosen(0));
        });
        Check.test("promise 21: no such feature", () -> {
            Check.refused(INDEX, ReadingEdgesTest::two, NO_FEATURES, (x, f) -> x.chosen(f));
            Check.refused(INDEX, States.FULL_AND_CHOSEN::make, BEYOND_SIX, (x, f) -> x.chosen(f));
            Check.refused(INDEX, ProductConfigurator::new, x -> x.chosen(0));
        });
    }

    private static void remaining() {
        Check.test("promise 22: from the bit of one option to those of five", () -> {
            ProductConfigurator x = Products.of(2, 3, 4, 5, 2, 5);
            int[] due = {3, 7, 15, 31, 3, 31};
            for (int feature = 0; feature < 6; feature++) {
                Check.equal(due[feature], x.remaining(feature));
            }
            x.choose(5, 4);
            x.choose(0, 0);
            Check.equal(16, x.remaining(5));
            Check.equal(1, x.remaining(0));
        });
        Check.test("promise 22: a choice for every feature", () -> {
            ProductConfigurator x = States.FULL_AND_CHOSEN.make();
            for (int feature = 0; feature < 6; feature++) {
                Check.equal(1 << x.chosen(feature), x.remaining(feature));
            }
        });
        Check.test("promise 22: no such feature", () -> {
            Check.refused(INDEX, ReadingEdgesTest::two, NO_FEATURES, (x, f) -> x.remaining(f));
            Check.refused(INDEX, States.FULL::make, BEYOND_SIX, (x, f) -> x.remaining(f));
            Check.refused(INDEX, ProductConfigurator::new, x -> x.remaining(0));
        });
    }

    private static void offered() {
        Check.test("promise 23: from the bit of one option to those of five", () -> {
            ProductConfigurator x = Products.of(2, 3, 4, 5, 2, 5);
            int[] due = {3, 7, 15, 31, 3, 31};
            for (int feature = 0; feature < 6; feature++) {
                Check.equal(due[feature], x.offered(feature));
            }
            x.choose(5, 4);
            x.choose(0, 0);
            Check.equal(16, x.offered(5));
            Check.equal(1, x.offered(0));
        });
        Check.test("promise 23: a choice for every feature", () -> {
            ProductConfigurator x = States.FULL_AND_CHOSEN.make();
            for (int feature = 0; feature < 6; feature++) {
                Check.equal(1 << x.chosen(feature), x.offered(feature));
            }
        });
        Check.test("promise 23: no such feature", () -> {
            Check.refused(INDEX, ReadingEdgesTest::two, NO_FEATURES, (x, f) -> x.offered(f));
            Check.refused(INDEX, States.FULL::make, BEYOND_SIX, (x, f) -> x.offered(f));
            Check.refused(INDEX, ProductConfigurator::new, x -> x.offered(0));
        });
    }

    private static void dueCount(int due, ProductConfigurator x) {
        Check.equal(due, x.count());
        Check.equal(due, x.countByTrying());
    }

    private static void counts() {
        Check.test("promises 24, 25: no features", () -> dueCount(1, new ProductConfigurator()));
        Check.test("promises 24, 25: the most that there can be", () ->
                dueCount(15625, Products.of(5, 5, 5, 5, 5, 5)));
        Check.test("promises 24, 25: the fewest, by choices and by rules", () -> {
            dueCount(1, States.FULL_AND_CHOSEN.make());
            dueCount(1, States.KNOT.make());
        });
        Check.test("promises 24, 25: all twenty rules off", () ->
                dueCount(240, States.RULES_OFF.make()));
        Check.test("promises 24, 25: nodes at which several ways meet, and ways that end", () -> {
            ProductConfigurator x = Products.of(5, 5, 5, 5, 5, 5);
            x.addRule(2, 0, 0, 5, 0);
            dueCount(625 + 4 * 4 * 625, x);
            x.addRule(2, 1, 1, 4, 1);
            dueCount(25 * 17 * 17, x);
            x.addRule(0, 2, 4, 3, 4);
            dueCount(24 * 17 * 17, x);
        });
        Check.test("promises 24, 25: a rule that is kept anyway changes nothing", () -> {
            ProductConfigurator x = States.KNOT.make();
            x.addRule(1, 0, 1, 2, 1);
            dueCount(1, x);
        });
    }

    private static void nodes() {
        Check.test("promise 26: no features", () ->
                Check.equal(1, new ProductConfigurator().nodes()));
        Check.test("promise 26: one to six features without rules", () -> {
            ProductConfigurator x = new ProductConfigurator();
            for (int feature = 1; feature <= 6; feature++) {
                x.addFeature(5);
                Check.equal(feature + 1, x.nodes());
            }
        });
        Check.test("promise 26: a choice for every feature", () ->
                Check.equal(7, States.FULL_AND_CHOSEN.make().nodes()));
        Check.test("promise 26: many nodes at a level", () -> {
            // The options of 0, 1 and 2 can all be told apart by what they leave of 3, 4 and 5.
            ProductConfigurator x = Products.of(5, 5, 5, 5, 5, 5);
            for (int option = 0; option < 4; option++) {
                for (int feature = 0; feature < 3; feature++) {
                    x.addRule(0, feature, option, feature + 3, option);
                }
            }
            Check.equal(1 + 5 + 25 + 125 + 25 + 5 + 1, x.nodes());
            dueCount(21 * 21 * 21, x);
        });
        Check.test("promise 26: rules that are off lead to no other nodes", () ->
                Check.equal(6, States.RULES_OFF.make().nodes()));
        Check.test("promise 26: a node from which nothing leads on counts", () ->
                Check.equal(1 + 2 + 1 + 1, States.KNOT.make().nodes()));
    }

    private static void readingChangesNothing() {
        for (States state : States.values()) {
            Check.test("promises 15 to 33: reading changes nothing, " + state, () -> {
                ProductConfigurator x = state.make();
                Readings.of(x);
                Check.sameReadings(Readings.whole(state.make()), Readings.whole(x));
            });
        }
    }
}
