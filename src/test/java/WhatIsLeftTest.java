/** Promises 22 to 26: what is left. */
final class WhatIsLeftTest {
    private static final Class<IndexOutOfBoundsException> INDEX = IndexOutOfBoundsException.class;
    private static final int MIN = Integer.MIN_VALUE;
    private static final int MAX = Integer.MAX_VALUE;

    private WhatIsLeftTest() {
    }

    static void runAll() {
        Check.test("promise 22: remaining", WhatIsLeftTest::remaining);
        Check.test("promise 22: remaining goes on along a chain", WhatIsLeftTest::remainingChain);
        Check.test("promise 22: remaining is less than offered", WhatIsLeftTest::remainingOfKnot);
        Check.test("promise 23: offered", WhatIsLeftTest::offered);
        Check.test("promises 22, 23: no such feature", WhatIsLeftTest::noSuchFeature);
        Check.test("promises 24, 25: count", WhatIsLeftTest::count);
        Check.test("promises 24, 25: count of the greatest product", WhatIsLeftTest::countGreatest);
        Check.test("promise 26: nodes", WhatIsLeftTest::nodes);
        Check.test("promise 26: nodes that lead nowhere count", WhatIsLeftTest::deadNodes);
        Check.test("promise 26: nodes with choices", WhatIsLeftTest::nodesWithChoices);
    }

    private static void remaining() {
        ProductConfigurator x = Products.of(3, 5);
        Check.equal(7, x.remaining(0));
        Check.equal(31, x.remaining(1));
        x.addRule(1, 0, 1, 1, 3);
        x.choose(0, 1);
        Check.equal(2, x.remaining(0));
        Check.equal(8, x.remaining(1));
        x.reset();
        x.choose(1, 4);
        Check.equal(5, x.remaining(0));
        Check.equal(16, x.remaining(1));
        x.switchRule(0, false);
        Check.equal(7, x.remaining(0));
    }

    private static void remainingChain() {
        ProductConfigurator x = Products.chain();
        x.choose(3, 1);
        Check.equal(2, x.remaining(2));
        Check.equal(2, x.remaining(1));
        Check.equal(2, x.remaining(0));
        x.reset();
        x.choose(0, 0);
        Check.equal(1, x.remaining(3));
    }

    private static void remainingOfKnot() {
        ProductConfigurator x = Products.knot();
        for (int f = 0; f < 3; f++) {
            Check.equal(3, x.remaining(f));
        }
        x.choose(0, 1);
        Check.equal(2, x.remaining(0));
        Check.equal(1, x.remaining(1));
        Check.equal(2, x.remaining(2));
    }

    private static void offered() {
        ProductConfigurator x = Products.knot();
        Check.equal(2, x.offered(0));
        Check.equal(1, x.offered(1));
        Check.equal(2, x.offered(2));
        x.switchRule(4, false);
        Check.equal(3, x.offered(0));
        x.choose(0, 0);
        Check.equal(1, x.offered(0));
        Check.equal(2, x.offered(1));
        Check.equal(1, x.offered(2));
        x.addFeature(5);
        Check.equal(31, x.offered(3));
    }

    private static void noSuchFeature() {
        ProductConfigurator x = Products.of(2, 2);
        for (int wrong : new int[] {MIN, -1, 2, 6, MAX}) {
            Check.refused(INDEX, () -> x.remaining(wrong));
            Check.refused(INDEX, () -> x.offered(wrong));
        }
    }

    private static void count() {
        ProductConfigurator x = Products.chain();
        // Of the four features, those with option 0 are an end of the row.
        due(x, 5);
        x.choose(1, 0);
        due(x, 2);
        x.withdraw(1);
        x.switchRule(1, false);
        due(x, 9);
        x.choose(3, 1);
        due(x, 3);
        x.finish();
        due(x, 1);
    }

    private static void countGreatest() {
        ProductConfigurator x = Products.of(5, 5, 5, 5, 5, 5);
        due(x, 15625);
        x.addRule(0, 0, 4, 5, 4);
        due(x, 15000);
        x.choose(5, 4);
        due(x, 2500);
        ProductConfigurator y = Products.greatest();
        Check.equal(y.count(), y.countByTrying());
    }

    private static void due(ProductConfigurator x, int count) {
        Check.equal(count, x.count());
        Check.equal(count, x.countByTrying());
    }

    private static void nodes() {
        // Without rules all options of a feature lead to the same node.
        Check.equal(1, new ProductConfigurator().nodes());
        Check.equal(2, Products.of(5).nodes());
        Check.equal(7, Products.of(5, 5, 5, 5, 5, 5).nodes());

        ProductConfigurator x = Products.of(3, 3);
        x.addRule(0, 0, 0, 1, 0);
        Check.equal(1 + 2 + 1, x.nodes());
        x.addRule(0, 0, 1, 1, 0);
        Check.equal(1 + 2 + 1, x.nodes());
        x.addRule(0, 0, 1, 1, 1);
        Check.equal(1 + 3 + 1, x.nodes());
        x.switchRule(2, false);
        Check.equal(1 + 2 + 1, x.nodes());
    }

    private static void deadNodes() {
        // From 0.0 the sets {1} and {1} are left, of two options that do not go together.
        ProductConfigurator x = Products.knot();
        Check.equal(1 + 2 + 1 + 1, x.nodes());

        // 0.0 leaves nothing of feature 1: no node.
        ProductConfigurator y = Products.of(2, 2);
        y.addRule(0, 0, 0, 1, 0);
        y.addRule(0, 0, 0, 1, 1);
        Check.equal(1 + 1 + 1, y.nodes());
    }

    private static void nodesWithChoices() {
        ProductConfigurator x = Products.of(3, 3, 3);
        x.addRule(0, 0, 0, 2, 0);
        x.addRule(0, 0, 1, 2, 1);
        Check.equal(1 + 3 + 3 + 1, x.nodes());
        x.choose(2, 2);
        Check.equal(1 + 1 + 1 + 1, x.nodes());
        x.reset();
        x.choose(2, 0);
        Check.equal(1 + 1 + 1 + 1, x.nodes());
        x.reset();
        x.choose(0, 0);
        Check.equal(1 + 1 + 1 + 1, x.nodes());
    }
}
