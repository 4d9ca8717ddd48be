/**
 * The answers that a configurator gives, be it the program or the model, as one text: two of them
 * that answer alike have the same text. An object may be asked 512 times only; with the most
 * features, options and rules there are, a whole reading takes some 310 calls.
 */
final class Readings {
    private final StringBuilder text = new StringBuilder();
    private final Object x;
    private final int features;
    private final int rules;

    private Readings(Object x) {
        this.x = x;
        this.features = number("features");
        this.rules = number("rules");
    }

    /** What can be read without a change. */
    static String of(Object x) {
        Readings readings = new Readings(x);
        readings.readAll();
        return readings.text.toString();
    }

    /**
     * What shows only by changes, too: the defaults, whether there is room for more, what the
     * rules that are off would do, and each price. The object is of no use afterwards.
     */
    static String whole(Object x) {
        Readings readings = new Readings(x);
        readings.readAll();
        readings.takeAndDropDefaults();
        readings.switchRules();
        readings.clearPrices();
        readings.addOneMoreOfEach();
        return readings.text.toString();
    }

    private Object ask(String name, int... arguments) {
        Call call = new Call(name, arguments);
        Object answer = call.on(x);
        text.append(call).append(' ').append(answer).append('\n');
        return answer;
    }

    private int number(String name, int... arguments) {
        return ask(name, arguments) instanceof Integer number ? number : -1;
    }

    private void readAll() {
        for (int rule = 0; rule < rules; rule++) {
            ask("isOn", rule);
        }
        readChoices();
        for (String name : new String[] {
            "count", "countByTrying", "nodes", "price", "leastPrice", "greatestPrice"}) {
            ask(name);
        }
        for (int feature = 0; feature < features; feature++) {
            int options = number("options", feature);
            for (String name : new String[] {"chosen", "remaining", "offered", "cheapest"}) {
                ask(name, feature);
            }
            for (int option = 0; option < options; option++) {
                ask("leastWith", feature, option);
                ask("whyByRules", feature, option);
                ask("whyByChoices", feature, option);
            }
        }
    }

    private void readChoices() {
        int choices = number("choices");
        for (int k = 0; k < choices; k++) {
            ask("choiceAt", k);
        }
    }

    private void takeAndDropDefaults() {
        ask("reset");
        ask("takeDefaults");
        readChoices();
        for (int feature = 0; feature < features; feature++) {
            ask("chosen", feature);
        }
        ask("reset");
        ask("dropDefaults");
    }

    private void switchRules() {
        for (int rule = 0; rule < rules; rule++) {
            boolean isOn = Boolean.TRUE.equals(ask("isOn", rule));
            ask("switchRule", rule, isOn ? 0 : 1);
            ask("count");
            ask("switchRule", rule, isOn ? 1 : 0);
        }
    }

    /** Without the options' prices what is left to read are the surcharges. */
    private void clearPrices() {
        for (int feature = 0; feature < features; feature++) {
            for (int option = 0; option < 5; option++) {
                ask("setPrice", feature, option, 0);
            }
        }
        ask("leastPrice");
        ask("greatestPrice");
        for (int feature = 0; feature < features; feature++) {
            ask("cheapest", feature);
            ask("leastWith", feature, 0);
            ask("leastWith", feature, 1);
        }
    }

    private void addOneMoreOfEach() {
        ask("addSurcharge", 0, 0, 1, 0, 1);
        ask("addDefault", 0, 0);
        ask("addRule", 1, 0, 0, 1, 0);
        ask("addFeature", 2);
    }
}
