/** The sentences of "What it is" and "Terms", each by the promises that it is told by. */
final class TermsTest {
    private static final Class<IndexOutOfBoundsException> INDEX = IndexOutOfBoundsException.class;
    private static final Class<IllegalStateException> STATE = IllegalStateException.class;

    private TermsTest() {
    }

    static void runAll() {
        theObject();
        featuresAndConfigurations();
        keptOrNot();
        rulesOfTwoFeatures();
        choices();
        possibleAtAnyTime();
        narrowing();
        diagram();
        explanations();
        prices();
        defaultsAndExceptions();
    }

    private static void theObject() {
        Check.test("promises 2 to 33, terms: the last of 512 calls answers like the first", () -> {
            ProductConfigurator x = Products.of(2, 5);
            for (int call = 3; call <= 510; call += 2) {
                Check.equal(1, x.choose(1, call % 5));
                Check.equal(call % 5, x.withdraw(1));
            }
            Check.equal(1, x.choose(1, 4));
            Check.equal(2, x.count());
        });
        Check.test("promises 3, 27, terms: 512 calls, nearly all of them refused", () -> {
            ProductConfigurator x = Products.of(2, 2);
            for (int rule = 0; rule < 20; rule++) {
                x.addRule(0, 0, 0, 1, 0);
            }
            for (int call = 23; call < 512; call++) {
                Check.refused(STATE, () -> x.addRule(0, 0, 1, 1, 1));
            }
            Check.equal(3, x.count());
        });
    }

    private static void featuresAndConfigurations() {
        Check.test("promise 2, terms: features are numbered from 0 on", () -> {
            ProductConfigurator x = new ProductConfigurator();
            for (int feature = 0; feature < 6; feature++) {
                Check.equal(feature, x.addFeature(2 + feature % 4));
                Check.equal(2 + feature % 4, x.options(feature));
            }
        });
        Check.test("promises 9, 23, terms: options are numbered from 0 on", () -> {
            ProductConfigurator x = Products.of(2, 3, 4, 5);
            for (int feature = 0; feature < 4; feature++) {
                int own = feature;
                Check.equal((1 << feature + 2) - 1, x.offered(feature));
                Check.refused(INDEX, () -> x.choose(own, own + 2));
                x.choose(feature, feature + 1);
                x.withdraw(feature);
                Check.refused(INDEX, () -> x.choose(own, -1));
                x.choose(feature, 0);
            }
            Check.equal(4, x.choices());
        });
        Check.test("promises 24, 25, terms: a configuration gives each feature an option", () -> {
            ProductConfigurator x = new ProductConfigurator();
            int[] due = {2, 10, 30, 120, 240, 1200};
            int[] options = {2, 5, 3, 4, 2, 5};
            for (int feature = 0; feature < 6; feature++) {
                x.addFeature(options[feature]);
                Check.equal(due[feature], x.count());
                Check.equal(due[feature], x.countByTrying());
            }
        });
        Check.test("promises 24, 25, 26, terms: no features, one configuration", () -> {
            ProductConfigurator x = new ProductConfigurator();
            Check.equal(1, x.count());
            Check.equal(1, x.countByTrying());
            Check.equal(1, x.nodes());
        });
        Check.test("promises 29, 30, 31, terms: no features, the price is 0", () -> {
            ProductConfigurator x = new ProductConfigurator();
            Check.equal(0, x.price());
            Check.equal(0, x.leastPrice());
            Check.equal(0, x.greatestPrice());
        });
    }

    /** What a rule about the options 1 of two features of three leaves: configurations, offers. */
    private static void keeps(int kind, int count, int withBoth, int withOne, int withOther,
            int withNeither) {
        ProductConfigurator x = Products.of(3, 3);
        x.addRule(kind, 1, 1, 0, 1);
        Check.equal(count, x.count());
        int[][] due = {{withNeither, withOther}, {withOne, withBoth}};
        for (int option = 0; option < 3; option++) {
            x.choose(1, option);
            int[] row = due[option == 1 ? 1 : 0];
            Check.equal(row[1] << 1 | row[0] | row[0] << 2, x.offered(0));
            x.withdraw(1);
        }
    }

    private static void keptOrNot() {
        Check.test("promise 3, terms: kind 0 is broken by both alone",
                () -> keeps(0, 8, 0, 1, 1, 1));
        Check.test("promise 3, terms: kind 1 is broken by the first without the other",
                () -> keeps(1, 7, 1, 0, 1, 1));
        Check.test("promise 3, terms: kind 2 is broken by one without the other",
                () -> keeps(2, 5, 1, 0, 0, 1));
        Check.test("promise 4, terms: a rule is on or off, and binds only while it is on", () -> {
            ProductConfigurator x = Products.of(3, 3);
            x.addRule(0, 0, 0, 1, 0);
            x.addRule(0, 0, 2, 1, 2);
            x.switchRule(0, false);
            Check.equal(false, x.isOn(0));
            Check.equal(true, x.isOn(1));
            Check.equal(8, x.count());
            Check.equal(8, x.countByTrying());
            x.switchRule(0, true);
            Check.equal(true, x.isOn(0));
            Check.equal(7, x.count());
            Check.equal(7, x.countByTrying());
        });
    }

    private static void rulesOfTwoFeatures() {
        Check.test("promise 22, terms: all rules about the two features count", () -> {
            ProductConfigurator x = Products.of(2, 3, 2);
            x.addRule(0, 0, 0, 1, 0);
            x.addRule(0, 1, 1, 0, 0);
            x.addRule(2, 2, 0, 1, 2);
            x.choose(0, 0);
            Check.equal(4, x.remaining(1));
            Check.equal(1, x.remaining(2));
            x.switchRule(1, false);
            Check.equal(6, x.remaining(1));
            Check.equal(3, x.remaining(2));
        });
        Check.test("promise 22, terms: rules about other features do not count", () -> {
            ProductConfigurator x = Products.of(2, 2, 2);
            x.addRule(0, 0, 0, 2, 0);
            x.choose(0, 0);
            Check.equal(3, x.remaining(1));
            Check.equal(2, x.remaining(2));
        });
        Check.test("promises 9, 11, 25, terms: rules that are off do not count", () -> {
            ProductConfigurator x = States.RULES_OFF.make();
            Check.equal(240, x.count());
            Check.equal(240, x.countByTrying());
            Check.equal(6, x.nodes());
            Check.equal(31, x.remaining(1));
            Check.equal(1, x.choose(0, 0));
            Check.equal(2, x.choose(1, 4));
            Check.equal(0, x.force(3, 2));
        });
    }

    private static void choices() {
        Check.test("promises 9, 20, terms: choices are kept in their order", () -> {
            ProductConfigurator x = Products.of(2, 2, 2, 2, 2, 2);
            int[] order = {3, 0, 5, 1, 4, 2};
            for (int feature : order) {
                x.choose(feature, 1);
            }
            for (int k = 0; k < 6; k++) {
                Check.equal(order[k], x.choiceAt(k));
            }
        });
        Check.test("promise 9, terms: each feature has at most one choice", () -> {
            Check.refused(STATE, States.FULL_AND_CHOSEN::make, x -> x.choose(5, 0));
            Check.refused(STATE, States.FULL_AND_CHOSEN::make, x -> x.choose(5, 4));
        });
        Check.test("promises 2 to 6, terms: what is added and switched while choices stand", () -> {
            ProductConfigurator x = Products.of(2, 2);
            x.choose(1, 1);
            x.choose(0, 0);
            Check.equal(0, x.addRule(2, 0, 0, 1, 1));
            Check.equal(2, x.addFeature(3));
            Check.equal(1, x.addRule(0, 2, 0, 1, 1));
            Check.equal(true, x.switchRule(0, false));
            Check.equal(0, x.setPrice(0, 0, 5));
            Check.equal(1, x.addSurcharge(0, 0, 1, 1, 7));
            Check.equal(6, x.offered(2));
            Check.equal(12, x.leastPrice());
            Check.equal(2, x.choices());
            Check.equal(1, x.choiceAt(0));
            Check.equal(1, x.chosen(1));
            Check.equal(0, x.chosen(0));
        });
        Check.test("promises 9, 13, 23, terms: no offered option leads to a dead end", () -> {
            for (States state : States.values()) {
                noDeadEnd(state);
            }
        });
    }

    private static void noDeadEnd(States state) {
        int features = state.make().features();
        for (int feature = 0; feature < features; feature++) {
            for (int option = 0; option < state.make().options(feature); option++) {
                ProductConfigurator x = state.make();
                int f = feature;
                int a = option;
                if (x.chosen(f) != -1) {
                    x.withdraw(f);
                }
                int others = x.choices();
                if ((x.offered(f) >> a & 1) == 0) {
                    Check.refused(STATE, () -> x.choose(f, a));
                } else {
                    Check.equal(others + 1, x.choose(f, a));
                    Check.equal(features - others - 1, x.finish());
                    Check.equal(1, x.countByTrying());
                }
            }
        }
    }

    private static void possibleAtAnyTime() {
        Check.test("promise 3, terms: no rule may leave nothing possible", () -> {
            Check.refused(STATE, States.KNOT::make, x -> x.addRule(0, 0, 1, 1, 0));
            Check.refused(STATE, States.KNOT::make, x -> x.addRule(1, 2, 1, 0, 0));
            Check.refused(STATE, States.KNOT::make, x -> x.addRule(2, 1, 0, 2, 0));
        });
        Check.test("promise 4, terms: no switch may leave nothing possible", () ->
                Check.refused(STATE, TermsTest::oneRuleTooMany, x -> x.switchRule(0, true)));
        Check.test("promises 3, 4, terms: a rule that leaves one is taken", () -> {
            ProductConfigurator x = oneRuleTooMany();
            x.switchRule(5, false);
            Check.equal(false, x.switchRule(0, true));
            Check.equal(1, x.count());
            Check.equal(6, x.addRule(2, 0, 1, 2, 1));
            Check.equal(1, x.countByTrying());
        });
        Check.test("promise 10, terms: a rule is refused only while the choices stand", () -> {
            ProductConfigurator x = Products.of(2, 2);
            x.choose(0, 0);
            x.choose(1, 0);
            Check.refused(STATE, () -> x.addRule(0, 0, 0, 1, 0));
            x.withdraw(0);
            Check.equal(0, x.addRule(0, 0, 0, 1, 0));
            Check.equal(2, x.offered(0));
        });
    }

    /** The knot, its first rule off, and another one on in its stead: not both can be on. */
    private static ProductConfigurator oneRuleTooMany() {
        ProductConfigurator x = States.KNOT.make();
        x.switchRule(0, false);
        x.addRule(0, 0, 1, 2, 1);
        return x;
    }

    private static void narrowing() {
        Check.test("promise 22, terms: all options at first, or the one that is chosen", () -> {
            ProductConfigurator x = Products.of(2, 5);
            Check.equal(3, x.remaining(0));
            Check.equal(31, x.remaining(1));
            x.choose(1, 4);
            Check.equal(3, x.remaining(0));
            Check.equal(16, x.remaining(1));
        });
        Check.test("promise 22, terms: one partner that is left is enough", () -> {
            ProductConfigurator x = Products.of(2, 5);
            for (int option = 0; option < 4; option++) {
                x.addRule(0, 0, 1, 1, option);
            }
            Check.equal(3, x.remaining(0));
            x.addRule(0, 1, 4, 0, 1);
            Check.equal(1, x.remaining(0));
        });
        Check.test("promise 22, terms: striking goes on until nothing more is to be struck",
                TermsTest::longNarrowing);
        Check.test("promises 22, 23, terms: what remains need not be offered", () -> {
            ProductConfigurator x = States.KNOT.make();
            Check.equal(3, x.remaining(0));
            Check.equal(2, x.offered(0));
        });
        Check.test("promises 22, 23, terms: what is offered always remains", () -> {
            for (States state : States.values()) {
                ProductConfigurator x = state.make();
                for (int feature = 0; feature < x.features(); feature++) {
                    Check.equal(x.offered(feature), x.offered(feature) & x.remaining(feature));
                }
            }
        });
    }

    /**
     * A chain of requirements through all features and again, 19 rules long, whose end is
     * excluded: only one option after the other is struck, against the order of their numbers.
     */
    private static void longNarrowing() {
        ProductConfigurator x = Products.of(5, 5, 5, 5, 5, 5);
        for (int k = 0; k < 19; k++) {
            x.addRule(1, k % 5, k / 5, (k + 1) % 5, (k + 1) / 5);
        }
        x.addRule(0, 4, 3, 5, 1);
        Check.equal(31, x.remaining(0));
        x.choose(5, 1);
        for (int feature = 0; feature < 5; feature++) {
            Check.equal(16, x.remaining(feature));
        }
        x.force(5, 0);
        Check.equal(31, x.remaining(0));
        Check.equal(31, x.remaining(4));
    }

    private static void diagram() {
        Check.test("promise 26, terms: one node at the level 0 and one at the last", () -> {
            Check.equal(1, new ProductConfigurator().nodes());
            Check.equal(2, Products.of(2).nodes());
            ProductConfigurator x = Products.of(5);
            x.choose(0, 4);
            Check.equal(2, x.nodes());
        });
        Check.test("promise 26, terms: other sets, other nodes", () -> {
            ProductConfigurator x = Products.of(5, 5);
            for (int option = 0; option < 5; option++) {
                Check.equal(1 + Math.min(option + 1, 5) + 1, x.nodes());
                x.addRule(0, 0, option, 1, option);
            }
            Check.equal(1 + 5 + 1, x.nodes());
        });
        Check.test("promise 26, terms: the same sets, the same node", () -> {
            ProductConfigurator x = Products.of(4, 5);
            for (int option = 0; option < 4; option++) {
                x.addRule(0, 0, option, 1, 2);
            }
            Check.equal(1 + 1 + 1, x.nodes());
        });
        Check.test("promise 26, terms: an empty set makes it no node", () -> {
            ProductConfigurator x = Products.of(3, 2, 2);
            x.addRule(0, 0, 0, 2, 0);
            Check.equal(1 + 2 + 2 + 1, x.nodes());
            x.addRule(0, 0, 0, 2, 1);
            Check.equal(1 + 1 + 1 + 1, x.nodes());
        });
        Check.test("promise 26, terms: only nodes to which a way leads count", () -> {
            // 1.0 alone leaves less of feature 2, and it does not go together with 0.0.
            ProductConfigurator x = Products.of(2, 2, 2);
            x.addRule(0, 1, 0, 2, 0);
            x.addRule(0, 0, 0, 1, 0);
            Check.equal(1 + 2 + 2 + 1, x.nodes());
            x.choose(0, 0);
            Check.equal(1 + 1 + 1 + 1, x.nodes());
            Check.equal(2, x.count());
        });
        Check.test("promise 26, terms: the sets are those that the choices allow", () -> {
            ProductConfigurator x = Products.of(3, 2, 2);
            x.addRule(0, 0, 0, 2, 0);
            x.choose(2, 1);
            Check.equal(1 + 1 + 1 + 1, x.nodes());
            x.withdraw(2);
            x.choose(0, 0);
            Check.equal(1 + 1 + 1 + 1, x.nodes());
        });
    }

    private static void explanations() {
        Check.test("promises 27, 28, terms: rules are left out first, by falling numbers", () -> {
            ProductConfigurator x = Products.of(2, 2, 2);
            x.addRule(0, 0, 0, 1, 0);
            x.addRule(0, 0, 0, 2, 0);
            x.addRule(0, 0, 0, 1, 0);
            x.choose(1, 0);
            x.choose(2, 0);
            Check.equal(1, x.whyByRules(0, 0));
            Check.equal(2, x.whyByChoices(0, 0));
            x.switchRule(0, false);
            Check.equal(2, x.whyByRules(0, 0));
            Check.equal(4, x.whyByChoices(0, 0));
        });
        Check.test("promises 27, 28, terms: a choice that is not needed is left out", () -> {
            ProductConfigurator x = States.KNOT.make();
            x.choose(0, 1);
            Check.equal(1 | 8 | 16, x.whyByRules(0, 0));
            Check.equal(0, x.whyByChoices(0, 0));
            x.choose(1, 0);
            Check.equal(1, x.whyByRules(0, 0));
            Check.equal(2, x.whyByChoices(0, 0));
        });
        Check.test("promises 27, 28, terms: the own choice is not regarded", () -> {
            ProductConfigurator x = Products.of(3, 2);
            x.addRule(0, 0, 1, 1, 0);
            x.choose(0, 0);
            x.choose(1, 0);
            Check.equal(1, x.whyByRules(0, 1));
            Check.equal(2, x.whyByChoices(0, 1));
            Check.refused(STATE, () -> x.whyByRules(0, 2));
            Check.refused(STATE, () -> x.whyByChoices(0, 2));
        });
    }

    private static void prices() {
        Check.test("promises 5, 30, 31, terms: each price is 0 at first", () -> {
            ProductConfigurator x = Products.of(2, 3, 4, 5, 5, 5);
            for (int feature = 0; feature < 6; feature++) {
                for (int option = 0; option < x.options(feature); option++) {
                    Check.equal(0, x.setPrice(feature, option, 0));
                }
            }
            Check.equal(0, x.leastPrice());
            Check.equal(0, x.greatestPrice());
        });
        Check.test("promises 29, 31, terms: the sum of all options and all surcharges", () -> {
            ProductConfigurator x = dearest();
            Check.equal(11000, x.greatestPrice());
            for (int feature = 0; feature < 6; feature++) {
                x.choose(feature, 4);
            }
            Check.equal(11000, x.price());
        });
        Check.test("promise 6, terms: surcharges about the same options count each", () -> {
            ProductConfigurator x = Products.of(2, 2);
            x.addSurcharge(0, 1, 1, 1, 3);
            x.addSurcharge(0, 1, 1, 1, 3);
            x.addSurcharge(1, 1, 0, 1, 5);
            Check.equal(11, x.greatestPrice());
            Check.equal(0, x.leastPrice());
        });
        Check.test("promise 6, terms: a surcharge counts with both options alone", () -> {
            ProductConfigurator x = Products.of(2, 2);
            x.addSurcharge(0, 1, 1, 1, 3);
            x.choose(0, 1);
            Check.equal(0, x.leastWith(1, 0));
            Check.equal(3, x.leastWith(1, 1));
            x.force(0, 0);
            Check.equal(0, x.leastWith(1, 1));
        });
        Check.test("promises 29, 30, 33, terms: a price can be below 0", () -> {
            ProductConfigurator x = Products.of(2, 2);
            for (int k = 0; k < 10; k++) {
                x.addSurcharge(0, 1, 1, 1, -500);
            }
            Check.equal(-5000, x.leastPrice());
            Check.equal(-5000, x.leastWith(0, 1));
            x.choose(0, 1);
            x.choose(1, 1);
            Check.equal(-5000, x.price());
            Check.equal(-5000, x.greatestPrice());
        });
        Check.test("promise 32, terms: the first feature in which they differ decides", () -> {
            ProductConfigurator x = Products.of(2, 2, 2);
            x.addRule(2, 0, 0, 2, 1);
            Check.equal(0, x.cheapest(0));
            Check.equal(0, x.cheapest(1));
            Check.equal(1, x.cheapest(2));
        });
    }

    /** As dear as can be: 6 options for 1000 each and 10 surcharges of 500. */
    private static ProductConfigurator dearest() {
        ProductConfigurator x = Products.of(5, 5, 5, 5, 5, 5);
        for (int feature = 0; feature < 6; feature++) {
            x.setPrice(feature, 4, 1000);
        }
        for (int k = 0; k < 10; k++) {
            x.addSurcharge(k % 6, 4, (k + 1) % 6, 4, 500);
        }
        return x;
    }

    private static void defaultsAndExceptions() {
        Check.test("promises 7, 12, terms: defaults in the order in which they were added", () -> {
            ProductConfigurator x = Products.of(3, 3);
            x.addDefault(1, 2);
            x.addDefault(0, 1);
            x.addDefault(1, 0);
            x.addDefault(0, 0);
            Check.equal(2, x.takeDefaults());
            Check.equal(1, x.choiceAt(0));
            Check.equal(2, x.chosen(1));
            Check.equal(1, x.chosen(0));
        });
        Check.test("promises 3, 6, terms: an option is one of the feature ahead of it", () -> {
            ProductConfigurator x = Products.of(2, 5);
            Check.equal(0, x.addRule(0, 0, 1, 1, 4));
            Check.equal(1, x.addRule(0, 1, 4, 0, 1));
            Check.equal(1, x.addSurcharge(0, 1, 1, 4, 1));
            Check.equal(2, x.addSurcharge(1, 4, 0, 1, 1));
            Check.refused(INDEX, () -> x.addRule(0, 0, 2, 1, 0));
            Check.refused(INDEX, () -> x.addRule(0, 1, 0, 0, 2));
            Check.refused(INDEX, () -> x.addSurcharge(0, 4, 1, 1, 1));
            Check.refused(INDEX, () -> x.addSurcharge(1, 1, 0, 4, 1));
        });
    }
}
