import java.util.function.Supplier;

/** Runs of calls, each answer held against the one of the plain model. */
final class RandomRunsTest {
    private static final int LONG_RUNS = 600;
    private static final int CALLS = 512;

    /** After fewer calls there are enough left of 512 to read the object whole. */
    private static final int SHORT_RUNS = 400;
    private static final int FEWER_CALLS = 200;
    private static final int CALLS_FROM_STATE = 120;
    private static final int RUNS_FROM_STATE = 12;

    private static final int CALLS_OF_CHOICES = 430;

    /** Seldom, since the model tries each of 15625 configurations. */
    private static final int GREAT_RUNS = 8;

    private final int run;
    private final ProductConfigurator x;
    private final Model model;
    private long state;
    private final int mostFeatures;
    private final int mostOptions;
    /** One of so many arguments may be out of range. */
    private final int wrongOutOf;

    /** Run by run, few features with many options or many with few. */
    private RandomRunsTest(int run) {
        this.run = run;
        this.x = new ProductConfigurator();
        this.model = new Model();
        this.state = run * 7919L + 17;
        this.mostFeatures = 2 + run % 5;
        this.mostOptions = mostFeatures > 4 ? 3 : 3 + run / 5 % 3;
        this.wrongOutOf = run % 2 == 0 ? 12 : 60;
    }

    private RandomRunsTest(int run, States from) {
        this.run = run;
        this.x = from.make();
        this.model = from.model();
        this.state = run * 104729L + from.ordinal();
        this.mostFeatures = 6;
        this.mostOptions = 3;
        this.wrongOutOf = 30;
    }

    static void runAll() {
        for (int k = 0; k < LONG_RUNS + SHORT_RUNS; k++) {
            int run = k;
            if (run < LONG_RUNS) {
                Check.test("random run " + run, () -> new RandomRunsTest(run).go(CALLS));
            } else {
                Check.test("random run, read whole at its end, " + run,
                        () -> new RandomRunsTest(run).goAndReadWhole(FEWER_CALLS));
            }
        }
        for (States from : States.values()) {
            for (int k = 0; k < RUNS_FROM_STATE; k++) {
                int run = k;
                Check.test("random run from the state " + from + ", " + run,
                        () -> new RandomRunsTest(run, from).goAndReadWhole(CALLS_FROM_STATE));
                Check.test("random run of choices from the state " + from + ", " + run,
                        () -> new RandomRunsTest(RUNS_FROM_STATE + run, from).goOverChoices());
            }
        }
        for (int k = 0; k < GREAT_RUNS; k++) {
            int run = k;
            Check.test("random run of the greatest product " + run,
                    () -> new RandomRunsTest(run, States.NOTHING).goGreat());
        }
    }

    private void go(int calls) {
        for (int call = 0; call < calls; call++) {
            step(call, next(100));
        }
    }

    /** Choices that come and go in one product; after each of them one is looked at. */
    private void goOverChoices() {
        for (int call = 0; call < CALLS_OF_CHOICES; call += 2) {
            changeChoices(30 + next(28));
            int k = next(7);
            compare("choiceAt", () -> x.choiceAt(k), () -> model.choiceAt(k));
        }
    }

    private void goGreat() {
        for (int f = 0; f < 6; f++) {
            compare("addFeature", () -> x.addFeature(5), () -> model.addFeature(5));
        }
        for (int call = 6; call < 160; call++) {
            step(call, next(100));
        }
    }

    private void goAndReadWhole(int calls) {
        go(calls);
        Check.sameReadings(Readings.whole(model), Readings.whole(x));
    }

    /** A linear generator of its own: the runs are the same ones every time. */
    private int next(int bound) {
        state = state * 6364136223846793005L + 1442695040888963407L;
        return (int) ((state >>> 33) % bound);
    }

    private int feature() {
        return next(wrongOutOf) == 0 ? next(9) - 1 : next(Math.max(1, model.sizes.size()));
    }

    private int option(int feature) {
        boolean isThere = feature >= 0 && feature < model.sizes.size();
        return next(wrongOutOf) == 0 || !isThere ? next(8) - 1 : next(model.sizes.get(feature));
    }

    private void step(int call, int what) {
        if (call < 2 || what < 2 || call < 30 && what % 6 == 0) {
            boolean isRoom = model.sizes.size() < mostFeatures;
            int options = next(6) == 0 || !isRoom ? next(2) * 5 + 1 : 2 + next(mostOptions - 1);
            compare("addFeature", () -> x.addFeature(options), () -> model.addFeature(options));
        } else if (what < 30) {
            changeProduct(what);
        } else if (what < 60) {
            changeChoices(what);
        } else {
            read(what);
        }
    }

    private void changeProduct(int what) {
        int f = feature();
        int a = option(f);
        int g = next(5) == 0 ? f : feature();
        int b = option(g);
        if (what < 12) {
            int kind = next(wrongOutOf) == 0 ? next(5) - 1 : next(3);
            compare("addRule", () -> x.addRule(kind, f, a, g, b),
                    () -> model.addRule(kind, f, a, g, b));
        } else if (what < 18) {
            int rule = next(wrongOutOf) == 0 ? next(24) - 2 : next(Math.max(1, model.rules.size()));
            boolean on = next(2) == 0;
            compare("switchRule", () -> x.switchRule(rule, on), () -> model.switchRule(rule, on));
        } else if (what < 22) {
            int price = next(4) == 0 ? next(1004) - 2 : next(4) * 10;
            compare("setPrice", () -> x.setPrice(f, a, price), () -> model.setPrice(f, a, price));
        } else if (what < 25) {
            int amount = next(4) == 0 ? next(1004) - 502 : (next(7) - 3) * 10;
            compare("addSurcharge", () -> x.addSurcharge(f, a, g, b, amount),
                    () -> model.addSurcharge(f, a, g, b, amount));
        } else if (what < 29) {
            compare("addDefault", () -> x.addDefault(f, a), () -> model.addDefault(f, a));
        } else {
            compare("dropDefaults", x::dropDefaults, model::dropDefaults);
        }
    }

    private void changeChoices(int what) {
        int f = feature();
        int a = option(f);
        if (what < 40) {
            compare("choose", () -> x.choose(f, a), () -> model.choose(f, a));
        } else if (what < 45) {
            compare("withdraw", () -> x.withdraw(f), () -> model.withdraw(f));
        } else if (what < 54) {
            compare("force", () -> x.force(f, a), () -> model.force(f, a));
        } else if (what < 57) {
            compare("takeDefaults", x::takeDefaults, model::takeDefaults);
        } else if (what < 58) {
            compare("finish", x::finish, model::finish);
        } else {
            compare("reset", x::reset, model::reset);
        }
    }

    private void read(int what) {
        int f = feature();
        int a = option(f);
        int k = next(8) - 1;
        switch (what % 19) {
            case 0 -> compare("features", x::features, () -> model.sizes.size());
            case 1 -> compare("options", () -> x.options(f), () -> model.options(f));
            case 2 -> compare("rules", x::rules, () -> model.rules.size());
            case 3 -> compare("isOn", () -> x.isOn(k), () -> model.isOn(k));
            case 4 -> compare("choices", x::choices, () -> model.choices.size());
            case 5 -> compare("choiceAt", () -> x.choiceAt(k), () -> model.choiceAt(k));
            case 6 -> compare("chosen", () -> x.chosen(f), () -> model.chosen(f));
            case 7 -> compare("remaining", () -> x.remaining(f), () -> model.remaining(f));
            case 8 -> compare("offered", () -> x.offered(f), () -> model.offered(f));
            case 9 -> compare("count", x::count, model::count);
            case 10 -> compare("countByTrying", x::countByTrying, model::count);
            case 11 -> compare("nodes", x::nodes, model::nodes);
            case 12 -> compare("whyByRules", () -> x.whyByRules(f, a),
                    () -> model.whyByRules(f, a));
            case 13 -> compare("whyByChoices", () -> x.whyByChoices(f, a),
                    () -> model.whyByChoices(f, a));
            case 14 -> compare("price", x::price, model::price);
            case 15 -> compare("leastPrice", x::leastPrice, model::leastPrice);
            case 16 -> compare("greatestPrice", x::greatestPrice, model::greatestPrice);
            case 17 -> compare("cheapest", () -> x.cheapest(f), () -> model.cheapest(f));
            default -> compare("leastWith", () -> x.leastWith(f, a), () -> model.leastWith(f, a));
        }
    }

    private void compare(String call, Supplier<Object> got, Supplier<Object> due) {
        Object wanted = answer(due);
        Object answered = answer(got);
        if (!wanted.equals(answered)) {
            throw new AssertionError("run " + run + ", " + call + ": due is " + wanted
                    + ", but the answer is " + answered);
        }
    }

    private static Object answer(Supplier<Object> call) {
        try {
            return call.get();
        } catch (RuntimeException e) {
            return e.getClass().getName();
        }
    }
}
