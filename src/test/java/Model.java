import java.util.ArrayList;
import java.util.HashSet;
import java.util.List;
import java.util.Set;

/**
 * The document told once more, as plainly as it goes: every configuration is made and looked at.
 * A call that the document refuses throws, before it changes anything.
 */
final class Model {
    final List<Integer> sizes = new ArrayList<>();
    final List<int[]> rules = new ArrayList<>();
    final List<Boolean> on = new ArrayList<>();
    final List<int[]> surcharges = new ArrayList<>();
    final List<int[]> defaults = new ArrayList<>();
    /** Each choice as feature and option. */
    final List<int[]> choices = new ArrayList<>();
    final int[][] prices = new int[6][5];

    private void needFeature(int feature) {
        if (feature < 0 || feature >= sizes.size()) {
            throw new IndexOutOfBoundsException();
        }
    }

    private void needOption(int feature, int option) {
        needFeature(feature);
        if (option < 0 || option >= sizes.get(feature)) {
            throw new IndexOutOfBoundsException();
        }
    }

    private static void needArgument(boolean good) {
        if (!good) {
            throw new IllegalArgumentException();
        }
    }

    private static void needState(boolean good) {
        if (!good) {
            throw new IllegalStateException();
        }
    }

    int addFeature(int options) {
        needArgument(options >= 2 && options <= 5);
        needState(sizes.size() < 6);
        sizes.add(options);
        return sizes.size() - 1;
    }

    int addRule(int kind, int f, int a, int g, int b) {
        needOption(f, a);
        needOption(g, b);
        needArgument(kind >= 0 && kind <= 2 && f != g);
        needState(rules.size() < 20);
        List<int[]> then = rulesOn();
        then.add(new int[] {kind, f, a, g, b});
        needState(!configurations(then, choices).isEmpty());
        rules.add(new int[] {kind, f, a, g, b});
        on.add(true);
        return rules.size() - 1;
    }

    boolean switchRule(int rule, boolean to) {
        if (rule < 0 || rule >= rules.size()) {
            throw new IndexOutOfBoundsException();
        }
        boolean before = on.get(rule);
        on.set(rule, to);
        boolean possible = !possible().isEmpty();
        if (!possible) {
            on.set(rule, before);
        }
        needState(possible);
        return before;
    }

    int setPrice(int feature, int option, int price) {
        needOption(feature, option);
        needArgument(price >= 0 && price <= 1000);
        int before = prices[feature][option];
        prices[feature][option] = price;
        return before;
    }

    int addSurcharge(int f, int a, int g, int b, int amount) {
        needOption(f, a);
        needOption(g, b);
        needArgument(f != g && amount >= -500 && amount <= 500);
        needState(surcharges.size() < 10);
        surcharges.add(new int[] {f, a, g, b, amount});
        return surcharges.size();
    }

    int addDefault(int feature, int option) {
        needOption(feature, option);
        needState(defaults.size() < 12);
        defaults.add(new int[] {feature, option});
        return defaults.size();
    }

    int dropDefaults() {
        int before = defaults.size();
        defaults.clear();
        return before;
    }

    int choose(int feature, int option) {
        needOption(feature, option);
        needState(chosen(feature) == -1 && isOffered(feature, option));
        choices.add(new int[] {feature, option});
        return choices.size();
    }

    int withdraw(int feature) {
        int option = chosen(feature);
        needState(option != -1);
        choices.removeIf(choice -> choice[0] == feature);
        return option;
    }

    int force(int feature, int option) {
        needOption(feature, option);
        List<int[]> wish = new ArrayList<>();
        wish.add(new int[] {feature, option});
        needState(!configurations(rulesOn(), wish).isEmpty());
        if (chosen(feature) == option) {
            return 0;
        }
        int takenBack = choices.removeIf(choice -> choice[0] == feature) ? 1 : 0;
        while (!isOffered(feature, option)) {
            List<int[]> reasons = explanation(feature, option).choices;
            choices.remove(reasons.get(reasons.size() - 1));
            takenBack++;
        }
        choices.add(new int[] {feature, option});
        return takenBack;
    }

    int takeDefaults() {
        int before = choices.size();
        for (int[] wish : defaults) {
            if (chosen(wish[0]) == -1 && isOffered(wish[0], wish[1])) {
                choices.add(wish.clone());
            }
        }
        return choices.size() - before;
    }

    int finish() {
        int before = choices.size();
        for (int feature = 0; feature < sizes.size(); feature++) {
            if (chosen(feature) == -1) {
                choices.add(new int[] {feature, Integer.numberOfTrailingZeros(offered(feature))});
            }
        }
        return choices.size() - before;
    }

    int reset() {
        int before = choices.size();
        choices.clear();
        return before;
    }

    int features() {
        return sizes.size();
    }

    int options(int feature) {
        needFeature(feature);
        return sizes.get(feature);
    }

    int rules() {
        return rules.size();
    }

    boolean isOn(int rule) {
        if (rule < 0 || rule >= rules.size()) {
            throw new IndexOutOfBoundsException();
        }
        return on.get(rule);
    }

    int choices() {
        return choices.size();
    }

    int choiceAt(int k) {
        if (k < 0 || k >= choices.size()) {
            throw new IndexOutOfBoundsException();
        }
        return choices.get(k)[0];
    }

    int chosen(int feature) {
        needFeature(feature);
        for (int[] choice : choices) {
            if (choice[0] == feature) {
                return choice[1];
            }
        }
        return -1;
    }

    int remaining(int feature) {
        needFeature(feature);
        List<Set<Integer>> left = optionSets();
        boolean struck = true;
        while (struck) {
            struck = false;
            for (int f = 0; f < sizes.size(); f++) {
                int own = f;
                struck |= left.get(f).removeIf(a -> lacksPartner(left, own, a));
            }
        }
        int bits = 0;
        for (int a : left.get(feature)) {
            bits |= 1 << a;
        }
        return bits;
    }

    private boolean lacksPartner(List<Set<Integer>> left, int f, int a) {
        for (int g = 0; g < sizes.size(); g++) {
            int other = g;
            if (g != f && left.get(g).stream().noneMatch(b -> goTogether(f, a, other, b))) {
                return true;
            }
        }
        return false;
    }

    int offered(int feature) {
        needFeature(feature);
        int bits = 0;
        for (int[] configuration : possible()) {
            bits |= 1 << configuration[feature];
        }
        return bits;
    }

    int count() {
        return possible().size();
    }

    int countByTrying() {
        return possible().size();
    }

    int nodes() {
        Set<List<Set<Integer>>> level = new HashSet<>();
        level.add(optionSets());
        int sum = 1;
        for (int f = 0; f < sizes.size(); f++) {
            Set<List<Set<Integer>>> next = new HashSet<>();
            for (List<Set<Integer>> node : level) {
                for (int a : node.get(0)) {
                    next.add(nodeBehind(node, f, a));
                }
            }
            next.removeIf(node -> node.stream().anyMatch(Set::isEmpty));
            sum += next.size();
            level = next;
        }
        return sum;
    }

    private List<Set<Integer>> nodeBehind(List<Set<Integer>> node, int f, int a) {
        List<Set<Integer>> sets = new ArrayList<>();
        for (int k = 1; k < node.size(); k++) {
            Set<Integer> set = new HashSet<>(node.get(k));
            int g = f + k;
            set.removeIf(b -> !goTogether(f, a, g, b));
            sets.add(set);
        }
        return sets;
    }

    int whyByRules(int feature, int option) {
        needOption(feature, option);
        int bits = 0;
        for (int rule : explanation(feature, option).rules) {
            bits |= 1 << rule;
        }
        return bits;
    }

    int whyByChoices(int feature, int option) {
        needOption(feature, option);
        int bits = 0;
        for (int[] choice : explanation(feature, option).choices) {
            bits |= 1 << choice[0];
        }
        return bits;
    }

    int price() {
        needState(choices.size() == sizes.size());
        return priceOf(possible().get(0));
    }

    int leastPrice() {
        return priceOf(best(possible()));
    }

    int greatestPrice() {
        return possible().stream().mapToInt(this::priceOf).max().getAsInt();
    }

    int cheapest(int feature) {
        needFeature(feature);
        return best(possible())[feature];
    }

    int leastWith(int feature, int option) {
        needOption(feature, option);
        needState(isOffered(feature, option));
        List<int[]> having = possible();
        having.removeIf(configuration -> configuration[feature] != option);
        return priceOf(best(having));
    }

    private int[] best(List<int[]> configurations) {
        int[] best = configurations.get(0);
        for (int[] configuration : configurations) {
            if (priceOf(configuration) < priceOf(best)) {
                best = configuration;
            }
        }
        return best;
    }

    private int priceOf(int[] configuration) {
        int sum = 0;
        for (int f = 0; f < configuration.length; f++) {
            sum += prices[f][configuration[f]];
        }
        for (int[] s : surcharges) {
            if (configuration[s[0]] == s[1] && configuration[s[2]] == s[3]) {
                sum += s[4];
            }
        }
        return sum;
    }

    /** The rules and the choices that say why an option is not offered. */
    private static final class Reasons {
        final List<Integer> rules = new ArrayList<>();
        final List<int[]> choices = new ArrayList<>();
    }

    private Reasons explanation(int feature, int option) {
        Reasons why = new Reasons();
        for (int rule = 0; rule < rules.size(); rule++) {
            if (on.get(rule)) {
                why.rules.add(rule);
            }
        }
        for (int[] choice : choices) {
            if (choice[0] != feature) {
                why.choices.add(choice);
            }
        }
        int[] wish = {feature, option};
        needState(isExplained(why, wish));
        for (int k = why.rules.size() - 1; k >= 0; k--) {
            Integer rule = why.rules.remove(k);
            if (!isExplained(why, wish)) {
                why.rules.add(k, rule);
            }
        }
        for (int k = why.choices.size() - 1; k >= 0; k--) {
            int[] choice = why.choices.remove(k);
            if (!isExplained(why, wish)) {
                why.choices.add(k, choice);
            }
        }
        return why;
    }

    private boolean isExplained(Reasons why, int[] wish) {
        List<int[]> kept = new ArrayList<>();
        for (int rule : why.rules) {
            kept.add(rules.get(rule));
        }
        List<int[]> taken = new ArrayList<>(why.choices);
        taken.add(wish);
        return configurations(kept, taken).isEmpty();
    }

    private boolean isOffered(int feature, int option) {
        return (offered(feature) >> option & 1) == 1;
    }

    private List<Set<Integer>> optionSets() {
        List<Set<Integer>> sets = new ArrayList<>();
        for (int f = 0; f < sizes.size(); f++) {
            Set<Integer> set = new HashSet<>();
            for (int a = 0; a < sizes.get(f); a++) {
                if (chosen(f) == -1 || chosen(f) == a) {
                    set.add(a);
                }
            }
            sets.add(set);
        }
        return sets;
    }

    private boolean goTogether(int f, int a, int g, int b) {
        int[] configuration = new int[sizes.size()];
        configuration[f] = a;
        configuration[g] = b;
        for (int[] rule : rulesOn()) {
            boolean isAboutThese = rule[1] == f && rule[3] == g || rule[1] == g && rule[3] == f;
            if (isAboutThese && !isKept(rule, configuration)) {
                return false;
            }
        }
        return true;
    }

    private List<int[]> rulesOn() {
        List<int[]> list = new ArrayList<>();
        for (int rule = 0; rule < rules.size(); rule++) {
            if (on.get(rule)) {
                list.add(rules.get(rule));
            }
        }
        return list;
    }

    private List<int[]> possible() {
        return configurations(rulesOn(), choices);
    }

    private List<int[]> configurations(List<int[]> kept, List<int[]> taken) {
        List<int[]> list = new ArrayList<>();
        addConfigurations(list, new int[sizes.size()], 0, kept, taken);
        return list;
    }

    private void addConfigurations(List<int[]> list, int[] configuration, int feature,
            List<int[]> kept, List<int[]> taken) {
        if (feature == sizes.size()) {
            if (hasAll(taken, configuration) && keepsAll(kept, configuration)) {
                list.add(configuration.clone());
            }
            return;
        }
        for (int option = 0; option < sizes.get(feature); option++) {
            configuration[feature] = option;
            addConfigurations(list, configuration, feature + 1, kept, taken);
        }
    }

    private static boolean hasAll(List<int[]> taken, int[] configuration) {
        for (int[] choice : taken) {
            if (configuration[choice[0]] != choice[1]) {
                return false;
            }
        }
        return true;
    }

    private static boolean keepsAll(List<int[]> kept, int[] configuration) {
        for (int[] rule : kept) {
            if (!isKept(rule, configuration)) {
                return false;
            }
        }
        return true;
    }

    private static boolean isKept(int[] rule, int[] configuration) {
        boolean hasOne = configuration[rule[1]] == rule[2];
        boolean hasOther = configuration[rule[3]] == rule[4];
        if (rule[0] == 0) {
            return !hasOne || !hasOther;
        }
        return rule[0] == 1 ? !hasOne || hasOther : hasOne == hasOther;
    }
}
