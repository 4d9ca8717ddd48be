import java.util.ArrayList;
import java.util.List;
import java.util.TreeSet;

/**
 * Every call of the face from several states, with every combination of the edges of its
 * arguments, held against the plain model: the answer or the exception, and, read whole, what the
 * call leaves behind.
 */
final class EdgeSweepTest {
    private static final int MIN = Integer.MIN_VALUE;
    private static final int MAX = Integer.MAX_VALUE;

    /** The calls by their promises, from the second on; an option is of the feature before it. */
    private static final String[] CALLS = {
        "addFeature options", "addRule kind feature option feature option", "switchRule rule on",
        "setPrice feature option price", "addSurcharge feature option feature option amount",
        "addDefault feature option", "dropDefaults", "choose feature option", "withdraw feature",
        "force feature option", "takeDefaults", "finish", "reset", "features", "options feature",
        "rules", "isOn rule", "choices", "choiceAt k", "chosen feature", "remaining feature",
        "offered feature", "count", "countByTrying", "nodes", "whyByRules feature option",
        "whyByChoices feature option", "price", "leastPrice", "greatestPrice", "cheapest feature",
        "leastWith feature option"
    };
    private static final int FIRST_READING = 15;

    /** So many calls that change nothing are made of one object: it may be used for 512. */
    private static final int BATCH = 120;

    private final States state;
    private final int promise;
    private final String name;
    private final String[] kinds;
    private Model model;
    private final String before;
    private final List<Call> mute = new ArrayList<>();

    private EdgeSweepTest(States state, int promise) {
        String[] words = CALLS[promise - 2].split(" ");
        this.state = state;
        this.promise = promise;
        this.name = words[0];
        this.kinds = words;
        this.model = state.model();
        this.before = Readings.whole(state.make());
    }

    static void runAll() {
        for (States state : States.values()) {
            Check.test("promises 1 to 33: each answer in the state " + state, () -> {
                String due = Readings.whole(state.model());
                Check.sameReadings(due, Readings.whole(state.make()));
            });
            for (int promise = 2; promise < 2 + CALLS.length; promise++) {
                int number = promise;
                Check.test("promise " + promise + ": edges of " + CALLS[promise - 2] + ", " + state,
                        () -> new EdgeSweepTest(state, number).sweep());
            }
        }
    }

    private void sweep() {
        sweepFrom(new int[kinds.length - 1], 0);
        makeMuteCalls();
    }

    private void sweepFrom(int[] arguments, int k) {
        if (k == arguments.length) {
            tryOne(new Call(name, arguments.clone()));
            return;
        }
        for (int value : edgesOf(kinds[k + 1], k > 0 ? arguments[k - 1] : 0)) {
            arguments[k] = value;
            sweepFrom(arguments, k + 1);
        }
    }

    private void tryOne(Call call) {
        Object due = call.on(model);
        if (promise >= FIRST_READING || Call.isRefusal(due)) {
            addMute(call);
            return;
        }
        ProductConfigurator x = state.make();
        same(call, due, call.on(x));
        try {
            Check.sameReadings(Readings.whole(model), Readings.whole(x));
        } catch (AssertionError e) {
            throw new AssertionError("after " + call + ": " + e.getMessage());
        }
        model = state.model();
    }

    private void addMute(Call call) {
        mute.add(call);
        if (mute.size() == BATCH) {
            makeMuteCalls();
        }
    }

    /** Refused calls and readings: the object is to stay as one that never got them. */
    private void makeMuteCalls() {
        ProductConfigurator x = state.make();
        for (Call call : mute) {
            same(call, call.on(model), call.on(x));
        }
        Check.sameReadings(before, Readings.whole(x));
        mute.clear();
    }

    private static void same(Call call, Object due, Object got) {
        if (!due.equals(got)) {
            throw new AssertionError(call + ": due is " + due + ", but the answer is " + got);
        }
    }

    private Iterable<Integer> edgesOf(String kind, int ahead) {
        switch (kind) {
            case "options":
                return edges(0, 1, 2, 3, 5, 6);
            case "kind":
                return edges(-1, 0, 1, 2, 3);
            case "feature":
                return edgesBelow(model.features());
            case "option":
                boolean isThere = ahead >= 0 && ahead < model.features();
                return edgesBelow(isThere ? model.options(ahead) : 5);
            case "rule":
                return edgesBelow(model.rules());
            case "on":
                return List.of(0, 1);
            case "price":
                return edges(-1, 0, 1, 1000, 1001);
            case "amount":
                return edges(-501, -500, 0, 500, 501);
            default:
                return edgesBelow(model.choices());
        }
    }

    private static Iterable<Integer> edgesBelow(int bound) {
        return edges(-1, 0, bound - 1, bound);
    }

    private static Iterable<Integer> edges(int... values) {
        TreeSet<Integer> set = new TreeSet<>(List.of(MIN, MAX));
        for (int value : values) {
            set.add(value);
        }
        return set;
    }
}
