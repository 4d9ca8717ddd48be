/** Promises 29 to 33: prices. */
final class PricesTest {
    private static final Class<IndexOutOfBoundsException> INDEX = IndexOutOfBoundsException.class;
    private static final Class<IllegalStateException> STATE = IllegalStateException.class;
    private static final int MIN = Integer.MIN_VALUE;
    private static final int MAX = Integer.MAX_VALUE;

    private PricesTest() {
    }

    static void runAll() {
        Check.test("promise 29: price", PricesTest::price);
        Check.test("promises 30, 31: leastPrice, greatestPrice", PricesTest::leastAndGreatest);
        Check.test("promises 30, 31: the widest prices", PricesTest::widest);
        Check.test("promise 32: cheapest", PricesTest::cheapest);
        Check.test("promise 32: cheapest, the first of several", PricesTest::cheapestFirst);
        Check.test("promise 33: leastWith", PricesTest::leastWith);
    }

    /** Prices 10, 20, 30 and 5, 0, 50; surcharges: -100 for 0.2 with 1.2, 40 for 0.0 with 1.1. */
    private static ProductConfigurator shop() {
        ProductConfigurator x = Products.of(3, 3);
        int[][] prices = {{10, 20, 30}, {5, 0, 50}};
        for (int f = 0; f < 2; f++) {
            for (int option = 0; option < 3; option++) {
                x.setPrice(f, option, prices[f][option]);
            }
        }
        x.addSurcharge(0, 2, 1, 2, -100);
        x.addSurcharge(1, 1, 0, 0, 40);
        return x;
    }

    private static void price() {
        ProductConfigurator x = shop();
        Check.refused(STATE, () -> x.price());
        x.choose(1, 2);
        Check.refused(STATE, () -> x.price());
        x.choose(0, 2);
        Check.equal(-20, x.price());
        x.force(0, 1);
        Check.equal(70, x.price());
        x.setPrice(0, 1, 1000);
        Check.equal(1050, x.price());
        x.addSurcharge(0, 1, 1, 2, 7);
        x.addSurcharge(0, 1, 1, 2, 7);
        Check.equal(1064, x.price());
        x.addFeature(2);
        Check.refused(STATE, () -> x.price());
        Check.equal(0, new ProductConfigurator().price());
    }

    private static void leastAndGreatest() {
        ProductConfigurator x = shop();
        Check.equal(-20, x.leastPrice());
        Check.equal(70, x.greatestPrice());
        x.addRule(0, 0, 2, 1, 2);
        Check.equal(15, x.leastPrice());
        x.addRule(0, 0, 1, 1, 2);
        Check.equal(60, x.greatestPrice());
        x.choose(1, 1);
        Check.equal(20, x.leastPrice());
        Check.equal(50, x.greatestPrice());
        x.choose(0, 0);
        Check.equal(50, x.leastPrice());
        Check.equal(50, x.greatestPrice());
    }

    private static void widest() {
        ProductConfigurator x = Products.of(5, 5, 5, 5, 5, 5);
        for (int f = 0; f < 6; f++) {
            x.setPrice(f, 4, 1000);
        }
        for (int k = 0; k < 10; k++) {
            x.addSurcharge(0, 4, 1, 4, 500);
        }
        Check.equal(11000, x.greatestPrice());
        Check.equal(0, x.leastPrice());
        ProductConfigurator y = Products.of(2, 2);
        for (int k = 0; k < 10; k++) {
            y.addSurcharge(0, 1, 1, 1, -500);
        }
        Check.equal(-5000, y.leastPrice());
        Check.equal(0, y.greatestPrice());
    }

    private static void cheapest() {
        ProductConfigurator x = shop();
        Check.equal(2, x.cheapest(0));
        Check.equal(2, x.cheapest(1));
        x.addRule(0, 0, 2, 1, 2);
        Check.equal(0, x.cheapest(0));
        Check.equal(0, x.cheapest(1));
        x.choose(0, 1);
        Check.equal(1, x.cheapest(0));
        Check.equal(1, x.cheapest(1));
        for (int wrong : new int[] {MIN, -1, 2, 6, MAX}) {
            Check.refused(INDEX, () -> x.cheapest(wrong));
        }
    }

    private static void cheapestFirst() {
        ProductConfigurator x = Products.of(2, 3);
        x.setPrice(0, 0, 10);
        x.setPrice(1, 0, 10);
        x.addSurcharge(0, 0, 1, 2, -10);
        // 0.0 with 1.2, 0.1 with 1.1 and 0.1 with 1.2 all cost nothing.
        Check.equal(0, x.leastPrice());
        Check.equal(0, x.cheapest(0));
        Check.equal(2, x.cheapest(1));
        x.setPrice(0, 0, 11);
        Check.equal(1, x.cheapest(0));
        Check.equal(1, x.cheapest(1));
    }

    private static void leastWith() {
        ProductConfigurator x = shop();
        Check.equal(15, x.leastWith(0, 0));
        Check.equal(20, x.leastWith(0, 1));
        Check.equal(-20, x.leastWith(0, 2));
        Check.equal(20, x.leastWith(1, 1));
        x.addRule(0, 0, 1, 1, 1);
        Check.equal(25, x.leastWith(0, 1));
        x.choose(1, 1);
        Check.refused(STATE, () -> x.leastWith(0, 1));
        Check.refused(STATE, () -> x.leastWith(1, 0));
        Check.equal(30, x.leastWith(0, 2));
        Check.equal(30, x.leastWith(1, 1));
        for (int wrong : new int[] {MIN, -1, 3, MAX}) {
            Check.refused(INDEX, () -> x.leastWith(wrong, 0));
            Check.refused(INDEX, () -> x.leastWith(0, wrong));
        }
    }
}
