/** Products that several tests start from. */
final class Products {
    private Products() {
    }

    /** Features with these numbers of options, no rules. */
    static ProductConfigurator of(int... options) {
        ProductConfigurator x = new ProductConfigurator();
        for (int number : options) {
            x.addFeature(number);
        }
        return x;
    }

    /**
     * Three features of two options: by rules only 0.1, 1.0, 2.1 is possible, but narrowing by
     * pairs can strike nothing.
     */
    static ProductConfigurator knot() {
        ProductConfigurator x = of(2, 2, 2);
        x.addRule(0, 0, 0, 1, 0);
        x.addRule(0, 0, 1, 1, 1);
        x.addRule(0, 1, 0, 2, 0);
        x.addRule(0, 1, 1, 2, 1);
        x.addRule(0, 0, 0, 2, 0);
        return x;
    }

    /** A chain of features of two options: 0.0 requires 1.0, that 2.0, that 3.0. */
    static ProductConfigurator chain() {
        ProductConfigurator x = of(2, 2, 2, 2);
        x.addRule(1, 0, 0, 1, 0);
        x.addRule(1, 1, 0, 2, 0);
        x.addRule(1, 2, 0, 3, 0);
        return x;
    }

    /** 0.0, 1.0 and 2.0 each exclude another of the three options of feature 3: only two can be. */
    static ProductConfigurator fork() {
        ProductConfigurator x = of(2, 2, 2, 3);
        x.addRule(0, 1, 0, 3, 0);
        x.addRule(0, 2, 0, 3, 1);
        x.addRule(0, 0, 0, 3, 2);
        return x;
    }

    /** As many features, options and rules as there can be; of the rules each third is off. */
    static ProductConfigurator greatest() {
        ProductConfigurator x = of(5, 5, 5, 5, 5, 5);
        for (int rule = 0; rule < 20; rule++) {
            int feature = rule % 6;
            x.addRule(rule % 3, feature, rule % 5, (feature + 1 + rule / 6) % 6, (rule + 2) % 5);
            x.switchRule(rule, rule % 3 != 0);
        }
        return x;
    }
}
