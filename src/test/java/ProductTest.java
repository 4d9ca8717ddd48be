/** Promises 1 to 8: a new object, and the product. */
final class ProductTest {
    private static final Class<IndexOutOfBoundsException> INDEX = IndexOutOfBoundsException.class;
    private static final Class<IllegalArgumentException> ARGUMENT = IllegalArgumentException.class;
    private static final Class<IllegalStateException> STATE = IllegalStateException.class;
    private static final int MIN = Integer.MIN_VALUE;
    private static final int MAX = Integer.MAX_VALUE;

    private ProductTest() {
    }

    static void runAll() {
        Check.test("promise 1: a new object is empty", ProductTest::newObject);
        Check.test("promise 1: objects are apart", ProductTest::objectsAreApart);
        Check.test("promise 2: addFeature", ProductTest::addFeature);
        Check.test("promise 2: addFeature while choices stand", ProductTest::addFeatureToChoices);
        Check.test("promise 3: addRule excludes", ProductTest::excludes);
        Check.test("promise 3: addRule requires", ProductTest::requires);
        Check.test("promise 3: addRule together", ProductTest::together);
        Check.test("promise 3: addRule regards choices", ProductTest::addRuleRegardsChoices);
        Check.test("promise 4: switchRule", ProductTest::switchRule);
        Check.test("promise 5: setPrice", ProductTest::setPrice);
        Check.test("promise 6: addSurcharge", ProductTest::addSurcharge);
        Check.test("promise 7: addDefault", ProductTest::addDefault);
        Check.test("promise 8: dropDefaults", ProductTest::dropDefaults);
    }

    private static void newObject() {
        ProductConfigurator x = new ProductConfigurator();
        Check.equal(0, x.features());
        Check.equal(0, x.rules());
        Check.equal(0, x.choices());
        Check.equal(0, x.dropDefaults());
        Check.equal(0, x.takeDefaults());
        Check.equal(0, x.finish());
        Check.equal(0, x.reset());
        Check.equal(1, x.count());
        Check.equal(1, x.countByTrying());
        Check.equal(1, x.nodes());
        Check.equal(0, x.price());
        Check.equal(0, x.leastPrice());
        Check.equal(0, x.greatestPrice());
    }

    private static void objectsAreApart() {
        ProductConfigurator x = Products.knot();
        x.setPrice(0, 1, 7);
        x.choose(0, 1);
        ProductConfigurator y = Products.of(2, 2);
        Check.equal(4, y.count());
        Check.equal(0, y.greatestPrice());
        Check.equal(0, y.choices());
    }

    private static void addFeature() {
        ProductConfigurator x = new ProductConfigurator();
        for (int wrong : new int[] {MIN, -1, 0, 1, 6, MAX}) {
            Check.refused(ARGUMENT, () -> x.addFeature(wrong));
        }
        int[] options = {2, 5, 3, 4, 2, 5};
        for (int f = 0; f < 6; f++) {
            Check.equal(f, x.addFeature(options[f]));
            Check.equal(f + 1, x.features());
            Check.equal(options[f], x.options(f));
            Check.equal((1 << options[f]) - 1, x.offered(f));
        }
        Check.equal(2 * 5 * 3 * 4 * 2 * 5, x.count());
        Check.refused(STATE, () -> x.addFeature(2));
        Check.refused(ARGUMENT, () -> x.addFeature(1));
        Check.refused(ARGUMENT, () -> x.addFeature(6));
    }

    private static void addFeatureToChoices() {
        ProductConfigurator x = Products.of(3);
        x.choose(0, 1);
        Check.equal(1, x.addFeature(4));
        Check.equal(-1, x.chosen(1));
        Check.equal(15, x.offered(1));
        Check.equal(1, x.chosen(0));
        Check.equal(4, x.count());
        Check.equal(1, x.choices());
    }

    private static void excludes() {
        ProductConfigurator x = Products.of(3, 3);
        Check.equal(0, x.addRule(0, 0, 1, 1, 2));
        Check.equal(true, x.isOn(0));
        Check.equal(8, x.count());
        Check.equal(8, x.countByTrying());
        Check.equal(3, withChoice(x, 0, 1, 1));
        Check.equal(7, withChoice(x, 0, 0, 1));
        Check.equal(5, withChoice(x, 1, 2, 0));
        Check.equal(7, withChoice(x, 1, 1, 0));
    }

    private static void requires() {
        ProductConfigurator x = Products.of(3, 3);
        Check.equal(0, x.addRule(1, 0, 1, 1, 2));
        Check.equal(7, x.count());
        Check.equal(7, x.countByTrying());
        Check.equal(4, withChoice(x, 0, 1, 1));
        Check.equal(7, withChoice(x, 0, 0, 1));
        Check.equal(7, withChoice(x, 1, 2, 0));
        Check.equal(5, withChoice(x, 1, 0, 0));
    }

    private static void together() {
        ProductConfigurator x = Products.of(3, 3);
        Check.equal(0, x.addRule(2, 0, 1, 1, 2));
        Check.equal(5, x.count());
        Check.equal(5, x.countByTrying());
        Check.equal(4, withChoice(x, 0, 1, 1));
        Check.equal(3, withChoice(x, 0, 0, 1));
        Check.equal(2, withChoice(x, 1, 2, 0));
        Check.equal(5, withChoice(x, 1, 0, 0));
    }

    /** What is offered of another feature while an option is chosen. */
    private static int withChoice(ProductConfigurator x, int feature, int option, int other) {
        x.choose(feature, option);
        int offered = x.offered(other);
        x.withdraw(feature);
        return offered;
    }

    private static void addRuleRegardsChoices() {
        ProductConfigurator x = Products.of(2, 2);
        x.choose(0, 0);
        x.choose(1, 0);
        Check.refused(STATE, () -> x.addRule(0, 0, 0, 1, 0));
        Check.refused(STATE, () -> x.addRule(1, 1, 0, 0, 1));
        Check.equal(0, x.addRule(1, 0, 0, 1, 0));
        x.withdraw(1);
        Check.equal(1, x.addRule(1, 1, 1, 0, 0));
        Check.equal(1, x.offered(1));
    }

    private static void switchRule() {
        ProductConfigurator x = Products.of(2, 2);
        x.addRule(0, 0, 0, 1, 0);
        x.addRule(0, 0, 1, 1, 1);
        Check.equal(true, x.switchRule(0, true));
        Check.equal(true, x.isOn(0));
        Check.equal(true, x.switchRule(0, false));
        Check.equal(false, x.isOn(0));
        Check.equal(true, x.isOn(1));
        Check.equal(3, x.count());
        Check.equal(3, x.countByTrying());
        Check.equal(false, x.switchRule(0, false));
        Check.equal(false, x.switchRule(0, true));
        Check.equal(2, x.count());
        Check.equal(2, x.rules());
    }

    private static void setPrice() {
        ProductConfigurator x = Products.of(2, 5);
        Check.equal(0, x.setPrice(1, 4, 1000));
        Check.equal(1000, x.setPrice(1, 4, 30));
        Check.equal(30, x.setPrice(1, 4, 30));
        Check.equal(0, x.setPrice(0, 1, 5));
        Check.equal(35, x.greatestPrice());
        Check.equal(30, x.setPrice(1, 4, 0));
        Check.equal(5, x.greatestPrice());
    }

    private static void addSurcharge() {
        ProductConfigurator x = Products.of(2, 2);
        Check.equal(1, x.addSurcharge(0, 0, 1, 1, 500));
        Check.equal(2, x.addSurcharge(1, 1, 0, 0, 500));
        Check.equal(3, x.addSurcharge(0, 0, 1, 1, 0));
        Check.equal(4, x.addSurcharge(1, 0, 0, 1, -500));
        Check.equal(1000, x.greatestPrice());
        Check.equal(-500, x.leastPrice());
        Check.equal(1000, x.leastWith(0, 0) + x.greatestPrice());
    }

    private static void addDefault() {
        ProductConfigurator x = Products.of(2, 3);
        for (int wrong : new int[] {MIN, -1, 2, MAX}) {
            Check.refused(INDEX, () -> x.addDefault(wrong, 0));
            Check.refused(INDEX, () -> x.addDefault(0, wrong));
        }
        Check.refused(INDEX, () -> x.addDefault(1, 3));
        for (int k = 1; k <= 12; k++) {
            Check.equal(k, x.addDefault(1, k % 3));
        }
        Check.refused(STATE, () -> x.addDefault(1, 0));
        Check.refused(INDEX, () -> x.addDefault(1, 3));
        Check.equal(12, x.dropDefaults());
        Check.equal(1, x.addDefault(0, 0));
        Check.equal(0, x.choices());
    }

    private static void dropDefaults() {
        ProductConfigurator x = Products.of(2, 3);
        x.addDefault(0, 1);
        x.addDefault(1, 1);
        x.choose(0, 1);
        Check.equal(2, x.dropDefaults());
        Check.equal(0, x.takeDefaults());
        Check.equal(1, x.choices());
        Check.equal(0, x.dropDefaults());
    }
}
