/** All that can be read of a configurator, as one text. */
final class Readings {
    private Readings() {
    }

    static String of(ProductConfigurator x) {
        StringBuilder text = new StringBuilder();
        text.append("features ").append(x.features()).append(" rules ").append(x.rules());
        for (int rule = 0; rule < x.rules(); rule++) {
            text.append(x.isOn(rule) ? " on" : " off");
        }
        text.append(" choices ").append(x.choices());
        for (int k = 0; k < x.choices(); k++) {
            text.append(' ').append(x.choiceAt(k));
        }
        text.append(" count ").append(x.count()).append(' ').append(x.countByTrying());
        text.append(" nodes ").append(x.nodes());
        text.append(" prices ").append(x.leastPrice()).append(" to ").append(x.greatestPrice());
        text.append(" price ").append(priceOf(x));
        for (int feature = 0; feature < x.features(); feature++) {
            addFeature(text, x, feature);
        }
        return text.toString();
    }

    private static void addFeature(StringBuilder text, ProductConfigurator x, int feature) {
        text.append("; feature ").append(feature).append(" options ").append(x.options(feature));
        text.append(" chosen ").append(x.chosen(feature));
        text.append(" remaining ").append(x.remaining(feature));
        text.append(" offered ").append(x.offered(feature));
        text.append(" cheapest ").append(x.cheapest(feature));
        for (int option = 0; option < x.options(feature); option++) {
            text.append(" with ").append(option).append(": ").append(leastWith(x, feature, option));
            text.append(" why ").append(why(x, feature, option));
        }
    }

    private static String priceOf(ProductConfigurator x) {
        try {
            return String.valueOf(x.price());
        } catch (IllegalStateException e) {
            return "refused";
        }
    }

    private static String leastWith(ProductConfigurator x, int feature, int option) {
        try {
            return String.valueOf(x.leastWith(feature, option));
        } catch (IllegalStateException e) {
            return "refused";
        }
    }

    private static String why(ProductConfigurator x, int feature, int option) {
        try {
            return x.whyByRules(feature, option) + "/" + x.whyByChoices(feature, option);
        } catch (IllegalStateException e) {
            return "refused";
        }
    }
}
