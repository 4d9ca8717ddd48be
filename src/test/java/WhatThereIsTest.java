/** Promises 15 to 21: what there is. */
final class WhatThereIsTest {
    private static final Class<IndexOutOfBoundsException> INDEX = IndexOutOfBoundsException.class;
    private static final int MIN = Integer.MIN_VALUE;
    private static final int MAX = Integer.MAX_VALUE;

    private WhatThereIsTest() {
    }

    static void runAll() {
        Check.test("promise 15: features", WhatThereIsTest::features);
        Check.test("promise 16: options", WhatThereIsTest::options);
        Check.test("promise 17: rules", WhatThereIsTest::rules);
        Check.test("promise 18: isOn", WhatThereIsTest::isOn);
        Check.test("promise 19: choices", WhatThereIsTest::choices);
        Check.test("promise 20: choiceAt", WhatThereIsTest::choiceAt);
        Check.test("promise 21: chosen", WhatThereIsTest::chosen);
        Check.test("promises 15 to 33: reading changes nothing", WhatThereIsTest::readingIsMute);
    }

    private static void features() {
        ProductConfigurator x = new ProductConfigurator();
        for (int k = 0; k < 6; k++) {
            Check.equal(k, x.features());
            x.addFeature(2);
        }
        Check.equal(6, x.features());
    }

    private static void options() {
        ProductConfigurator x = Products.of(2, 3, 4, 5);
        x.choose(3, 1);
        for (int f = 0; f < 4; f++) {
            Check.equal(f + 2, x.options(f));
        }
        for (int wrong : new int[] {MIN, -1, 4, 6, MAX}) {
            Check.refused(INDEX, () -> x.options(wrong));
        }
    }

    private static void rules() {
        ProductConfigurator x = Products.of(2, 2);
        Check.equal(0, x.rules());
        x.addRule(0, 0, 0, 1, 0);
        x.addRule(0, 0, 0, 1, 0);
        Check.equal(2, x.rules());
        x.switchRule(0, false);
        Check.equal(2, x.rules());
    }

    private static void isOn() {
        ProductConfigurator x = Products.of(2, 2);
        Check.refused(INDEX, () -> x.isOn(0));
        for (int rule = 0; rule < 20; rule++) {
            x.addRule(0, 0, 0, 1, 0);
        }
        x.switchRule(0, false);
        x.switchRule(19, false);
        for (int rule = 0; rule < 20; rule++) {
            Check.equal(rule != 0 && rule != 19, x.isOn(rule));
        }
        for (int wrong : new int[] {MIN, -1, 20, 32, 33, MAX}) {
            Check.refused(INDEX, () -> x.isOn(wrong));
        }
    }

    private static void choices() {
        ProductConfigurator x = Products.of(2, 2, 2, 2, 2, 2);
        for (int f = 5; f >= 0; f--) {
            Check.equal(5 - f, x.choices());
            x.choose(f, 1);
        }
        Check.equal(6, x.choices());
        x.withdraw(3);
        Check.equal(5, x.choices());
    }

    private static void choiceAt() {
        ProductConfigurator x = Products.of(2, 2, 2);
        Check.refused(INDEX, () -> x.choiceAt(0));
        x.choose(2, 0);
        x.choose(0, 1);
        Check.equal(2, x.choiceAt(0));
        Check.equal(0, x.choiceAt(1));
        for (int wrong : new int[] {MIN, -1, 2, 3, MAX}) {
            Check.refused(INDEX, () -> x.choiceAt(wrong));
        }
        x.reset();
        Check.refused(INDEX, () -> x.choiceAt(0));
    }

    private static void chosen() {
        ProductConfigurator x = Products.of(2, 5);
        Check.equal(-1, x.chosen(0));
        x.choose(1, 4);
        Check.equal(-1, x.chosen(0));
        Check.equal(4, x.chosen(1));
        x.withdraw(1);
        Check.equal(-1, x.chosen(1));
        for (int wrong : new int[] {MIN, -1, 2, 6, 33, MAX}) {
            Check.refused(INDEX, () -> x.chosen(wrong));
        }
    }

    private static void readingIsMute() {
        for (ProductConfigurator x : new ProductConfigurator[] {
            new ProductConfigurator(), Products.knot(), Products.chain(), Products.greatest()}) {
            x.takeDefaults();
            String before = Readings.of(x);
            Check.sameReadings(before, Readings.of(x));
        }
    }
}
