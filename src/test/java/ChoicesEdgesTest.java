/** Promises 9 to 14, sentence by sentence: what is empty or full, each edge, each refusal. */
final class ChoicesEdgesTest {
    private static final Class<IndexOutOfBoundsException> INDEX = IndexOutOfBoundsException.class;
    private static final Class<IllegalStateException> STATE = IllegalStateException.class;
    private static final int MIN = Integer.MIN_VALUE;
    private static final int MAX = Integer.MAX_VALUE;

    /** No feature of a product of two; times five the last one wraps around to a small number. */
    private static final int[] NO_FEATURES = {MIN, -1, 2, 5, 6, 31, 32, 33, MAX, 858993460};

    /** No option of a feature of two; -5 with the second feature would be one of the first. */
    private static final int[] NO_OPTIONS = {MIN, -5, -1, 2, 5, MAX};

    private ChoicesEdgesTest() {
    }

    static void runAll() {
        choose();
        chooseRefusals();
        withdraw();
        force();
        forceUntilOffered();
        forceRefusals();
        takeDefaults();
        finish();
        reset();
    }

    /** The choices in their order, each as feature and option. */
    private static String order(ProductConfigurator x) {
        StringBuilder text = new StringBuilder();
        for (int k = 0; k < x.choices(); k++) {
            text.append(x.choiceAt(k)).append('.').append(x.chosen(x.choiceAt(k))).append(' ');
        }
        return text.toString();
    }

    private static String fullAndChosenWhole() {
        return Readings.whole(States.FULL_AND_CHOSEN.make());
    }

    private static ProductConfigurator two() {
        return Products.of(2, 2);
    }

    private static ProductConfigurator secondChosen() {
        ProductConfigurator x = two();
        x.choose(1, 0);
        return x;
    }

    /** 0.0 excludes the options 0 of all the others, and all of these are chosen, 0.1 amid them. */
    private static ProductConfigurator allAgainstOne() {
        ProductConfigurator x = Products.of(2, 2, 2, 2, 2, 2);
        for (int other = 1; other < 6; other++) {
            x.addRule(0, 0, 0, other, 0);
        }
        for (int feature : new int[] {4, 2, 0, 5, 1, 3}) {
            x.choose(feature, feature == 0 ? 1 : 0);
        }
        return x;
    }

    private static void choose() {
        Check.test("promise 9: returns how many choices there are then, 1 to 6", () -> {
            ProductConfigurator x = Products.of(2, 3, 4, 5, 2, 3);
            for (int feature = 5; feature >= 0; feature--) {
                Check.equal(6 - feature, x.choose(feature, feature % 2));
                Check.equal(6 - feature, x.choices());
            }
        });
        Check.test("promise 9: the first and the last option of the first and last feature", () -> {
            ProductConfigurator x = Products.of(5, 2, 2, 2, 2, 5);
            x.choose(0, 4);
            x.choose(5, 0);
            Check.equal("0.4 5.0 ", order(x));
            x.reset();
            x.choose(5, 4);
            x.choose(0, 0);
            Check.equal("5.4 0.0 ", order(x));
        });
        Check.test("promise 9: the only option that is offered can be chosen", () -> {
            ProductConfigurator x = States.KNOT.make();
            Check.equal(1, x.choose(2, 1));
            Check.equal(2, x.choose(0, 1));
            Check.equal(3, x.choose(1, 0));
        });
    }

    private static void chooseRefusals() {
        Check.test("promise 9: no such feature", () -> {
            Check.refused(INDEX, ChoicesEdgesTest::secondChosen, NO_FEATURES,
                    (x, feature) -> x.choose(feature, 0));
            Check.refused(INDEX, ProductConfigurator::new, x -> x.choose(0, 0));
            Check.refused(INDEX, States.FULL::make, x -> x.choose(6, 0));
        });
        Check.test("promise 9: no such option", () -> {
            Check.refused(INDEX, ChoicesEdgesTest::two, NO_OPTIONS, (x, a) -> x.choose(0, a));
            Check.refused(INDEX, ChoicesEdgesTest::two, NO_OPTIONS, (x, a) -> x.choose(1, a));
            Check.refused(INDEX, States.FULL::make, x -> x.choose(5, 5));
        });
        Check.test("promise 9: the feature has a choice, the same one or another", () -> {
            Check.refused(STATE, ChoicesEdgesTest::secondChosen, x -> x.choose(1, 0));
            Check.refused(STATE, ChoicesEdgesTest::secondChosen, x -> x.choose(1, 1));
            Check.refused(STATE, States.FULL_AND_CHOSEN::make, x -> x.choose(0, 0));
            Check.refused(STATE, States.FULL_AND_CHOSEN::make, x -> x.choose(0, 1));
        });
        Check.test("promise 9: the option is not offered by the choices", () -> {
            Check.refused(STATE, States.FULL_WITH_CHOICES::make, x -> x.choose(1, 4));
            Check.refused(STATE, () -> {
                ProductConfigurator x = two();
                x.addRule(0, 0, 1, 1, 1);
                x.choose(0, 1);
                return x;
            }, x -> x.choose(1, 1));
        });
        Check.test("promise 9: the option is not offered, though it remains", () -> {
            Check.equal(3, States.KNOT.make().remaining(1));
            Check.refused(STATE, States.KNOT::make, x -> x.choose(0, 0));
            Check.refused(STATE, States.KNOT::make, x -> x.choose(1, 1));
            Check.refused(STATE, States.KNOT::make, x -> x.choose(2, 0));
        });
        Check.test("promise 9: no such option goes before the choice that is there", () -> {
            Check.refused(INDEX, ChoicesEdgesTest::secondChosen, NO_OPTIONS,
                    (x, option) -> x.choose(1, option));
            Check.refused(INDEX, States.FULL_AND_CHOSEN::make, x -> x.choose(0, 2));
            Check.refused(INDEX, States.FULL_AND_CHOSEN::make, x -> x.choose(6, 0));
        });
    }

    private static void withdraw() {
        Check.test("promise 10: returns the option, the first or the last one", () -> {
            ProductConfigurator x = Products.of(5, 2, 2, 2, 2, 5);
            x.choose(0, 4);
            x.choose(5, 0);
            Check.equal(4, x.withdraw(0));
            Check.equal(0, x.withdraw(5));
            Check.equal(0, x.choices());
            Check.equal(-1, x.chosen(0));
            Check.equal(-1, x.chosen(5));
        });
        Check.test("promise 10: each one of six, the others keep their order", () -> {
            for (int feature = 0; feature < 6; feature++) {
                ProductConfigurator x = allAgainstOne();
                String due = order(x).replace(feature + "." + x.chosen(feature) + " ", "");
                Check.equal(feature == 0 ? 1 : 0, x.withdraw(feature));
                Check.equal(due, order(x));
                Check.equal(5, x.choices());
            }
        });
        Check.test("promise 10: the first, the last, the one between", () -> {
            ProductConfigurator x = Products.of(2, 2, 2);
            x.choose(2, 1);
            x.choose(0, 1);
            x.choose(1, 0);
            Check.equal(1, x.withdraw(0));
            Check.equal("2.1 1.0 ", order(x));
            Check.equal(0, x.withdraw(1));
            Check.equal("2.1 ", order(x));
            Check.equal(1, x.withdraw(2));
            Check.equal("", order(x));
        });
        Check.test("promise 10: what is chosen again is the latest choice", () -> {
            ProductConfigurator x = allAgainstOne();
            x.withdraw(4);
            Check.equal(6, x.choose(4, 0));
            Check.equal("2.0 0.1 5.0 1.0 3.0 4.0 ", order(x));
        });
        Check.test("promise 10: no such feature", () -> {
            Check.refused(INDEX, ChoicesEdgesTest::secondChosen, NO_FEATURES,
                    (x, feature) -> x.withdraw(feature));
            Check.refused(INDEX, ProductConfigurator::new, x -> x.withdraw(0));
            Check.refused(INDEX, States.FULL_AND_CHOSEN::make, x -> x.withdraw(6));
        });
        Check.test("promise 10: it has no choice", () -> {
            Check.refused(STATE, ChoicesEdgesTest::two, x -> x.withdraw(0));
            Check.refused(STATE, ChoicesEdgesTest::secondChosen, x -> x.withdraw(0));
            Check.refused(STATE, States.FULL_WITH_CHOICES::make, x -> x.withdraw(5));
            Check.refused(STATE, () -> {
                ProductConfigurator x = secondChosen();
                x.withdraw(1);
                return x;
            }, x -> x.withdraw(1));
        });
    }

    private static void force() {
        Check.test("promise 11: nothing in its way, none is taken back", () -> {
            ProductConfigurator x = secondChosen();
            Check.equal(0, x.force(0, 1));
            Check.equal("1.0 0.1 ", order(x));
        });
        Check.test("promise 11: without any choice it is chosen like by choose", () -> {
            ProductConfigurator x = two();
            Check.equal(0, x.force(1, 1));
            Check.equal("1.1 ", order(x));
        });
        Check.test("promise 11: another choice of the feature is taken back and counts", () -> {
            ProductConfigurator x = Products.of(5, 2);
            x.choose(0, 4);
            x.choose(1, 1);
            Check.equal(1, x.force(0, 0));
            Check.equal("1.1 0.0 ", order(x));
        });
        Check.test("promise 11: what is chosen already changes nothing, its place included", () -> {
            for (int feature = 0; feature < 6; feature++) {
                ProductConfigurator x = States.FULL_AND_CHOSEN.make();
                Check.equal(0, x.force(feature, x.chosen(feature)));
                Check.sameReadings(fullAndChosenWhole(), Readings.whole(x));
            }
        });
        Check.test("promise 11: all six choices are taken back", () -> {
            ProductConfigurator x = allAgainstOne();
            Check.equal(6, x.force(0, 0));
            Check.equal("0.0 ", order(x));
        });
        Check.test("promise 11: five choices of others are taken back", () -> {
            ProductConfigurator x = allAgainstOne();
            x.withdraw(0);
            Check.equal(5, x.force(0, 0));
            Check.equal("0.0 ", order(x));
        });
        Check.test("promise 11: choices that do not stand in its way stay in their order", () -> {
            ProductConfigurator x = allAgainstOne();
            x.switchRule(1, false);
            x.switchRule(3, false);
            Check.equal(4, x.force(0, 0));
            Check.equal("4.0 2.0 0.0 ", order(x));
        });
    }

    private static void forceUntilOffered() {
        Check.test("promise 11: only the latest choice of an explanation is taken back", () -> {
            ProductConfigurator x = Products.fork();
            x.choose(2, 0);
            x.choose(1, 0);
            Check.equal(1, x.force(0, 0));
            Check.equal("2.0 0.0 ", order(x));
        });
        Check.test("promise 11: the latest of the explanation, not of all choices", () -> {
            ProductConfigurator x = Products.fork();
            x.choose(2, 0);
            x.choose(1, 0);
            x.addFeature(2);
            x.choose(4, 1);
            Check.equal(1, x.force(0, 0));
            Check.equal("2.0 4.1 0.0 ", order(x));
        });
        Check.test("promise 11: the latest of those that stand, whatever was there before", () -> {
            ProductConfigurator x = Products.fork();
            x.addFeature(2);
            x.addFeature(2);
            x.choose(0, 1);
            x.choose(4, 0);
            x.choose(5, 0);
            x.choose(1, 0);
            x.withdraw(1);
            x.withdraw(0);
            x.withdraw(5);
            x.choose(1, 0);
            x.choose(2, 0);
            Check.equal(2 | 4, x.whyByChoices(0, 0));
            Check.equal(1, x.force(0, 0));
            Check.equal("4.0 1.0 0.0 ", order(x));
        });
        Check.test("promise 11: it stops as soon as the option is offered", () -> {
            ProductConfigurator x = Products.chain();
            x.choose(3, 0);
            x.choose(2, 0);
            x.choose(1, 1);
            x.choose(0, 1);
            Check.equal(2, x.force(0, 0));
            Check.equal("3.0 2.0 0.0 ", order(x));
        });
        Check.test("promise 11: a new explanation each time", () -> {
            ProductConfigurator x = Products.chain();
            x.choose(3, 1);
            x.choose(2, 1);
            x.choose(1, 1);
            Check.equal(3, x.force(0, 0));
            Check.equal("0.0 ", order(x));
        });
        Check.test("promise 11: the own choice is taken back first, and is in no way", () -> {
            ProductConfigurator x = Products.of(3, 3);
            x.addRule(0, 0, 0, 1, 0);
            x.choose(0, 0);
            x.choose(1, 1);
            Check.equal(1, x.force(0, 2));
            Check.equal("1.1 0.2 ", order(x));
            Check.equal(1, x.force(1, 0));
            Check.equal("0.2 1.0 ", order(x));
            Check.equal(2, x.force(0, 0));
            Check.equal("0.0 ", order(x));
        });
    }

    private static void forceRefusals() {
        Check.test("promise 11: no such feature", () -> {
            Check.refused(INDEX, ChoicesEdgesTest::secondChosen, NO_FEATURES,
                    (x, feature) -> x.force(feature, 0));
            Check.refused(INDEX, ProductConfigurator::new, x -> x.force(0, 0));
            Check.refused(INDEX, States.FULL_AND_CHOSEN::make, x -> x.force(6, 0));
        });
        Check.test("promise 11: no such option", () -> {
            Check.refused(INDEX, ChoicesEdgesTest::secondChosen, NO_OPTIONS,
                    (x, option) -> x.force(0, option));
            Check.refused(INDEX, ChoicesEdgesTest::secondChosen, NO_OPTIONS,
                    (x, option) -> x.force(1, option));
            Check.refused(INDEX, States.FULL_AND_CHOSEN::make, x -> x.force(1, 5));
        });
        Check.test("promise 11: it would not be offered without any choice", () -> {
            Check.refused(STATE, States.KNOT::make, x -> x.force(0, 0));
            Check.refused(STATE, States.FULL::make, x -> x.force(1, 4));
        });
        Check.test("promise 11: refused, the other choices and its own one stay in order", () -> {
            Check.refused(STATE, ChoicesEdgesTest::knotChosen, x -> x.force(0, 0));
            Check.refused(STATE, ChoicesEdgesTest::knotChosen, x -> x.force(1, 1));
            Check.refused(STATE, ChoicesEdgesTest::knotChosen, x -> x.force(2, 0));
            Check.refused(STATE, States.FULL_AND_CHOSEN::make, x -> x.force(1, 4));
            ProductConfigurator x = knotChosen();
            Check.refused(STATE, () -> x.force(0, 0));
            Check.equal("2.1 0.1 1.0 ", order(x));
        });
        Check.test("promise 11: no such option goes before what is not offered", () -> {
            Check.refused(INDEX, States.KNOT::make, x -> x.force(0, 2));
            Check.refused(INDEX, States.KNOT::make, x -> x.force(3, 0));
            Check.refused(INDEX, States.KNOT::make, x -> x.force(1, -1));
        });
    }

    private static ProductConfigurator knotChosen() {
        ProductConfigurator x = States.KNOT.make();
        x.choose(2, 1);
        x.choose(0, 1);
        x.choose(1, 0);
        return x;
    }

    private static void takeDefaults() {
        Check.test("promise 12: no features, no defaults, no choice is made", () -> {
            Check.equal(0, new ProductConfigurator().takeDefaults());
            ProductConfigurator x = secondChosen();
            Check.equal(0, x.takeDefaults());
            Check.equal("1.0 ", order(x));
        });
        Check.test("promise 12: six of twelve defaults make a choice for every feature", () -> {
            ProductConfigurator x = Products.of(2, 3, 4, 5, 2, 3);
            for (int feature = 5; feature >= 0; feature--) {
                x.addDefault(feature, 1);
                x.addDefault(feature, 0);
            }
            Check.equal(6, x.takeDefaults());
            Check.equal("5.1 4.1 3.1 2.1 1.1 0.1 ", order(x));
            Check.equal(0, x.takeDefaults());
        });
        Check.test("promise 12: with a choice for every feature nothing is chosen", () -> {
            ProductConfigurator x = States.FULL_AND_CHOSEN.make();
            Check.equal(0, x.takeDefaults());
            Check.sameReadings(fullAndChosenWhole(), Readings.whole(x));
        });
        Check.test("promise 12: the twelfth default is taken, too", () -> {
            ProductConfigurator x = two();
            for (int k = 0; k < 11; k++) {
                x.addDefault(0, 1);
            }
            Check.equal(12, x.addDefault(1, 1));
            Check.equal(2, x.takeDefaults());
            Check.equal("0.1 1.1 ", order(x));
        });
        Check.test("promise 12: what is not offered by then is passed over", () -> {
            ProductConfigurator x = two();
            x.addRule(0, 0, 0, 1, 0);
            x.addDefault(1, 0);
            x.addDefault(0, 0);
            x.addDefault(0, 1);
            Check.equal(2, x.takeDefaults());
            Check.equal("1.0 0.1 ", order(x));
        });
        Check.test("promise 12: a default that leads to a dead end is passed over", () -> {
            ProductConfigurator x = States.KNOT.make();
            x.addDefault(0, 0);
            x.addDefault(1, 1);
            x.addDefault(2, 0);
            Check.equal(0, x.takeDefaults());
            Check.equal(0, x.choices());
        });
        Check.test("promise 12: the defaults stay, and can be taken again", () -> {
            ProductConfigurator x = two();
            x.addDefault(0, 1);
            x.addDefault(1, 1);
            Check.equal(2, x.takeDefaults());
            x.withdraw(0);
            Check.equal(1, x.takeDefaults());
            Check.equal("1.1 0.1 ", order(x));
            Check.equal(2, x.dropDefaults());
        });
    }

    private static void finish() {
        Check.test("promise 13: no features, no choice is made", () ->
                Check.equal(0, new ProductConfigurator().finish()));
        Check.test("promise 13: without a choice all six are made, by rising numbers", () -> {
            ProductConfigurator x = Products.of(2, 3, 4, 5, 2, 3);
            Check.equal(6, x.finish());
            Check.equal("0.0 1.0 2.0 3.0 4.0 5.0 ", order(x));
        });
        Check.test("promise 13: with a choice for every feature nothing is chosen", () -> {
            ProductConfigurator x = States.FULL_AND_CHOSEN.make();
            Check.equal(0, x.finish());
            Check.sameReadings(fullAndChosenWhole(), Readings.whole(x));
        });
        Check.test("promise 13: the choices that are there stay ahead", () -> {
            ProductConfigurator x = Products.of(2, 3, 4);
            x.choose(2, 3);
            x.choose(0, 1);
            Check.equal(1, x.finish());
            Check.equal("2.3 0.1 1.0 ", order(x));
        });
        Check.test("promise 13: the lowest option that is offered, be it the last one", () -> {
            ProductConfigurator x = Products.of(2, 5);
            for (int option = 0; option < 4; option++) {
                x.addRule(0, 0, 0, 1, option);
            }
            Check.equal(2, x.finish());
            Check.equal("0.0 1.4 ", order(x));
        });
        Check.test("promise 13: the lowest option that remains may not be offered", () -> {
            ProductConfigurator x = States.KNOT.make();
            Check.equal(3, x.finish());
            Check.equal("0.1 1.0 2.1 ", order(x));
        });
    }

    private static void reset() {
        Check.test("promise 14: no choices", () -> {
            Check.equal(0, new ProductConfigurator().reset());
            Check.equal(0, States.FULL.make().reset());
        });
        Check.test("promise 14: all six choices are taken back, and nothing else", () -> {
            ProductConfigurator x = States.FULL_AND_CHOSEN.make();
            Check.equal(6, x.reset());
            Check.equal(0, x.choices());
            Check.sameReadings(Readings.whole(States.FULL.make()), Readings.whole(x));
        });
        Check.test("promise 14: there is room for all choices again", () -> {
            ProductConfigurator x = allAgainstOne();
            Check.equal(6, x.reset());
            Check.equal(0, x.reset());
            Check.equal(6, x.finish());
            Check.equal("0.0 1.1 2.1 3.1 4.1 5.1 ", order(x));
        });
    }
}
