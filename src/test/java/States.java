import java.util.List;

/** States to start from, as the calls that lead there on a new object, be it program or model. */
enum States {
    NOTHING("features"),

    ONE_FEATURE("addFeature 2"),

    /** Without rules, choices, prices, surcharges and defaults. */
    TWO_FEATURES("""
        addFeature 2
        addFeature 5"""),

    /** A single configuration, 0.1 1.0 2.1, which narrowing does not find. */
    KNOT("""
        addFeature 2
        addFeature 2
        addFeature 2
        addRule 0 0 0 1 0
        addRule 0 0 1 1 1
        addRule 0 1 0 2 0
        addRule 0 1 1 2 1
        addRule 0 0 0 2 0
        setPrice 0 1 1000
        addSurcharge 0 1 2 1 -500"""),

    /** 0.0 to 4.0 each exclude another one of the five options of the feature 5: not all can be. */
    FIVE_WAYS("""
        addFeature 2
        addFeature 2
        addFeature 2
        addFeature 2
        addFeature 2
        addFeature 5
        addRule 0 0 0 5 0
        addRule 0 5 1 1 0
        addRule 0 2 0 5 2
        addRule 0 5 3 3 0
        addRule 0 4 0 5 4
        setPrice 5 4 10
        addSurcharge 0 0 4 0 -5
        addDefault 5 4
        addDefault 1 0"""),

    /** One less than the most of each: 5 features, 19 rules, 9 surcharges, 11 defaults. */
    ALMOST_FULL(Parts.FIVE_FEATURES + Parts.RULES + Parts.PRICES + Parts.SURCHARGES
            + Parts.DEFAULTS + Parts.CHOICES),

    /** 6 features, 20 rules, 10 surcharges, 12 defaults. */
    FULL(Parts.FIVE_FEATURES + Parts.SIXTH_FEATURE + Parts.RULES + Parts.LAST_RULE + Parts.PRICES
            + Parts.SURCHARGES + Parts.LAST_SURCHARGE + Parts.DEFAULTS + Parts.LAST_DEFAULT),

    /** The same with two choices, which leave several configurations. */
    FULL_WITH_CHOICES(Parts.FIVE_FEATURES + Parts.SIXTH_FEATURE + Parts.RULES + Parts.LAST_RULE
            + Parts.PRICES + Parts.SURCHARGES + Parts.LAST_SURCHARGE + Parts.DEFAULTS
            + Parts.LAST_DEFAULT + Parts.CHOICES),

    /** The same with a choice for every feature. */
    FULL_AND_CHOSEN(Parts.FIVE_FEATURES + Parts.SIXTH_FEATURE + Parts.RULES + Parts.LAST_RULE
            + Parts.PRICES + Parts.SURCHARGES + Parts.LAST_SURCHARGE + Parts.DEFAULTS
            + Parts.LAST_DEFAULT + Parts.CHOICES + "finish\n"),

    /** 20 rules, all of them off: as if there were none, but that there is no room for more. */
    RULES_OFF(Parts.FIVE_FEATURES + Parts.RULES + Parts.LAST_RULE_OF_FIVE + Parts.ALL_OFF
            + Parts.PRICES);

    private final List<Call> calls;

    States(String lines) {
        this.calls = Call.script(lines);
    }

    ProductConfigurator make() {
        return (ProductConfigurator) lead(new ProductConfigurator());
    }

    Model model() {
        return (Model) lead(new Model());
    }

    private Object lead(Object configurator) {
        for (Call call : calls) {
            Object answer = call.on(configurator);
            if (Call.isRefusal(answer)) {
                throw new AssertionError(this + ": " + call + " throws " + answer);
            }
        }
        return configurator;
    }

    /** The constants of an enum are made ahead of its own fields, so that these stand apart. */
    private static final class Parts {
        static final String FIVE_FEATURES = """
            addFeature 2
            addFeature 5
            addFeature 3
            addFeature 4
            addFeature 2
            """;
        static final String SIXTH_FEATURE = "addFeature 5\n";
        static final String RULES = """
            addRule 0 0 0 1 4
            addRule 1 1 0 2 2
            addRule 2 2 0 3 3
            addRule 0 3 0 4 0
            addRule 1 4 1 1 3
            addRule 0 4 1 1 4
            switchRule 4 0
            addRule 0 2 1 1 1
            addRule 1 3 1 2 1
            addRule 0 0 1 3 2
            addRule 0 2 2 0 1
            addRule 1 2 1 1 4
            switchRule 10 0
            addRule 0 0 0 1 4
            addRule 1 4 0 0 0
            addRule 2 1 2 4 0
            switchRule 13 0
            addRule 0 3 3 1 3
            addRule 0 1 2 3 1
            addRule 0 2 0 4 1
            switchRule 16 0
            addRule 1 0 1 1 1
            switchRule 17 0
            addRule 0 1 4 3 1
            """;
        static final String LAST_RULE = "addRule 1 5 4 1 0\n";
        static final String LAST_RULE_OF_FIVE = "addRule 1 3 2 1 0\n";
        static final String ALL_OFF = """
            switchRule 0 0
            switchRule 1 0
            switchRule 2 0
            switchRule 3 0
            switchRule 5 0
            switchRule 6 0
            switchRule 7 0
            switchRule 8 0
            switchRule 9 0
            switchRule 11 0
            switchRule 12 0
            switchRule 14 0
            switchRule 15 0
            switchRule 18 0
            switchRule 19 0
            """;
        static final String PRICES = """
            setPrice 0 1 1000
            setPrice 1 0 10
            setPrice 1 1 20
            setPrice 1 4 999
            setPrice 2 2 1
            setPrice 3 3 30
            setPrice 4 1 500
            """;
        static final String SURCHARGES = """
            addSurcharge 0 0 1 0 -500
            addSurcharge 1 0 0 0 -1
            addSurcharge 2 2 3 1 500
            addSurcharge 1 3 4 1 -20
            addSurcharge 1 3 4 1 -20
            addSurcharge 0 1 4 1 0
            addSurcharge 3 2 2 0 70
            addSurcharge 1 4 3 3 -70
            addSurcharge 4 0 2 1 15
            """;
        static final String LAST_SURCHARGE = "addSurcharge 5 4 0 0 -30\n";
        static final String DEFAULTS = """
            addDefault 1 4
            addDefault 3 1
            addDefault 3 3
            addDefault 0 0
            addDefault 1 4
            addDefault 1 1
            addDefault 2 2
            addDefault 4 1
            addDefault 4 0
            addDefault 0 1
            addDefault 2 0
            """;
        static final String LAST_DEFAULT = "addDefault 5 4\n";
        static final String CHOICES = """
            choose 4 1
            choose 0 0
            """;
    }
}
