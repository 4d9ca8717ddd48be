/**
 * A product configurator: features with options, rules between options of two features,
 * choices that are made and taken back, defaults, prices, and explanations for what is not
 * offered. The document ../shared/DOC.md says what each call does, by numbered promises.
 *
 * <p>A slot is an option of a feature as one number: the feature times five, plus the option.
 * Sets are the option sets of all features in one int, the bit of a slot telling whether the
 * option is in the set of its feature: so one "and" narrows the sets of all features at once,
 * and no call needs a new array. A configuration is sets that hold one option each.
 */
public final class ProductConfigurator {
    private static final int MOST_FEATURES = 6;
    private static final int FEWEST_OPTIONS = 2;
    private static final int MOST_OPTIONS = 5;
    private static final int MOST_SLOTS = 30;
    private static final int MOST_RULES = 20;
    private static final int MOST_SURCHARGES = 10;
    private static final int MOST_DEFAULTS = 12;
    private static final int GREATEST_OPTION_PRICE = 1000;
    private static final int LEAST_AMOUNT = -500;
    private static final int GREATEST_AMOUNT = 500;
    private static final int EXCLUDES = 0;
    private static final int REQUIRES = 1;
    private static final int TOGETHER = 2;
    private static final int FIVE_OPTIONS = 31;
    private static final int NONE = -1;

    private final Features product = new Features();
    private final Rules ruleBook = new Rules();
    private final Prices prices = new Prices();
    private final Defaults wishes = new Defaults();
    private final Choices made = new Choices();

    /** What goes together by the rules that are on; rebuilt when they change. */
    private final Pairs pairs = new Pairs();

    /** What would go together by rules that are only being tried. */
    private final Pairs trial = new Pairs();

    private final Diagram diagram = new Diagram();
    private final Explanation explanation = new Explanation();
    private final PriceSearch search = new PriceSearch();

    /** Promise 1. */
    public ProductConfigurator() {
    }

    // ---- the product

    /** Promise 2. */
    public int addFeature(int options) throws IllegalArgumentException, IllegalStateException {
        if (options < FEWEST_OPTIONS || options > MOST_OPTIONS) {
            throw new IllegalArgumentException("a feature has 2 to 5 options");
        }
        if (!product.add(options)) {
            throw new IllegalStateException("there are 6 features");
        }
        return product.size - 1;
    }

    /** Promise 3. */
    public int addRule(int kind, int feature, int option, int other, int otherOption)
            throws IndexOutOfBoundsException, IllegalArgumentException, IllegalStateException {
        checkOption(feature, option);
        checkOption(other, otherOption);
        if (kind < EXCLUDES || kind > TOGETHER) {
            throw new IllegalArgumentException("a rule's kind is 0 to 2");
        }
        checkDifferent(feature, other);
        int slot = slotOf(feature, option);
        int otherSlot = slotOf(other, otherOption);
        trial.keepOnly(ruleBook, ruleBook.on);
        trial.keep(kind, slot, otherSlot);
        checkPossible(trial);
        if (!ruleBook.add(kind, slot, otherSlot)) {
            throw new IllegalStateException("there are 20 rules");
        }
        pairs.keepOnly(ruleBook, ruleBook.on);
        return ruleBook.size - 1;
    }

    /** Promise 4. */
    public boolean switchRule(int rule, boolean on)
            throws IndexOutOfBoundsException, IllegalStateException {
        checkRule(rule);
        boolean before = holds(ruleBook.on, rule);
        int then = on ? ruleBook.on | 1 << rule : ruleBook.on & ~(1 << rule);
        trial.keepOnly(ruleBook, then);
        checkPossible(trial);
        ruleBook.on = then;
        pairs.keepOnly(ruleBook, then);
        return before;
    }

    /** Promise 5. */
    public int setPrice(int feature, int option, int price)
            throws IndexOutOfBoundsException, IllegalArgumentException {
        checkOption(feature, option);
        if (price < 0 || price > GREATEST_OPTION_PRICE) {
            throw new IllegalArgumentException("an option's price is 0 to 1000");
        }
        int slot = slotOf(feature, option);
        int before = prices.ofSlots[slot];
        prices.ofSlots[slot] = price;
        return before;
    }

    /** Promise 6. */
    public int addSurcharge(int feature, int option, int other, int otherOption, int amount)
            throws IndexOutOfBoundsException, IllegalArgumentException, IllegalStateException {
        checkOption(feature, option);
        checkOption(other, otherOption);
        checkDifferent(feature, other);
        if (amount < LEAST_AMOUNT || amount > GREATEST_AMOUNT) {
            throw new IllegalArgumentException("an amount is -500 to 500");
        }
        int both = 1 << slotOf(feature, option) | 1 << slotOf(other, otherOption);
        if (!prices.add(both, amount)) {
            throw new IllegalStateException("there are 10 surcharges");
        }
        return prices.surcharges;
    }

    /** Promise 7. */
    public int addDefault(int feature, int option)
            throws IndexOutOfBoundsException, IllegalStateException {
        checkOption(feature, option);
        if (!wishes.add(slotOf(feature, option))) {
            throw new IllegalStateException("there are 12 defaults");
        }
        return wishes.size;
    }

    /** Promise 8. */
    public int dropDefaults() {
        int before = wishes.size;
        wishes.size = 0;
        return before;
    }

    // ---- choices

    /** Promise 9. */
    public int choose(int feature, int option)
            throws IndexOutOfBoundsException, IllegalStateException {
        checkOption(feature, option);
        if (made.has(feature)) {
            throw new IllegalStateException("the feature has a choice");
        }
        checkOffered(feature, option);
        made.add(feature, option);
        return made.size;
    }

    /** Promise 10. */
    public int withdraw(int feature) throws IndexOutOfBoundsException, IllegalStateException {
        checkFeature(feature);
        if (!made.has(feature)) {
            throw new IllegalStateException("the feature has no choice");
        }
        int option = made.optionOf(feature);
        made.remove(feature);
        return option;
    }

    /** Promise 11. */
    public int force(int feature, int option)
            throws IndexOutOfBoundsException, IllegalStateException {
        checkOption(feature, option);
        if (!pairs.leaveSome(only(product.all, feature, option), product.size)) {
            throw new IllegalStateException("the option is not offered without any choice");
        }
        if (made.optionOf(feature) == option) {
            return 0;
        }
        int before = made.size;
        made.remove(feature);
        for (int k = 0; k < MOST_FEATURES && explain(feature, option); k++) {
            made.remove(made.latestOf(explanation.choosers));
        }
        int takenBack = before - made.size;
        made.add(feature, option);
        return takenBack;
    }

    /** Promise 12. */
    public int takeDefaults() {
        int before = made.size;
        for (int k = 0; k < wishes.size; k++) {
            int feature = wishes.slots[k] / MOST_OPTIONS;
            int option = wishes.slots[k] % MOST_OPTIONS;
            if (!made.has(feature) && isOffered(feature, option)) {
                made.add(feature, option);
            }
        }
        return made.size - before;
    }

    /** Promise 13. */
    public int finish() {
        int before = made.size;
        for (int feature = 0; feature < product.size; feature++) {
            int option = made.has(feature) ? NONE : lowestOf(offeredOf(feature));
            if (option != NONE) {
                made.add(feature, option);
            }
        }
        return made.size - before;
    }

    /** Promise 14. */
    public int reset() {
        int before = made.size;
        made.clear();
        return before;
    }

    // ---- what there is; nothing from here on changes anything

    /** Promise 15. */
    public int features() {
        return product.size;
    }

    /** Promise 16. */
    public int options(int feature) throws IndexOutOfBoundsException {
        checkFeature(feature);
        return product.options[feature];
    }

    /** Promise 17. */
    public int rules() {
        return ruleBook.size;
    }

    /** Promise 18. */
    public boolean isOn(int rule) throws IndexOutOfBoundsException {
        checkRule(rule);
        return holds(ruleBook.on, rule);
    }

    /** Promise 19. */
    public int choices() {
        return made.size;
    }

    /** Promise 20. */
    public int choiceAt(int k) throws IndexOutOfBoundsException {
        if (k < 0 || k >= made.size) {
            throw new IndexOutOfBoundsException("no such choice");
        }
        return made.order[k];
    }

    /** Promise 21. */
    public int chosen(int feature) throws IndexOutOfBoundsException {
        checkFeature(feature);
        return made.optionOf(feature);
    }

    // ---- what is left

    /** Promise 22. */
    public int remaining(int feature) throws IndexOutOfBoundsException {
        checkFeature(feature);
        return setOf(pairs.narrow(allowed(), product.size), feature);
    }

    /** Promise 23. */
    public int offered(int feature) throws IndexOutOfBoundsException {
        checkFeature(feature);
        return offeredOf(feature);
    }

    /** Promise 24. */
    public int count() {
        diagram.draw(pairs, product.size, allowed());
        return diagram.waysToLastLevel();
    }

    /** Promise 25. */
    public int countByTrying() {
        return tryFrom(ruleBook, product.size, 0, allowed(), 0);
    }

    /** Promise 26. */
    public int nodes() {
        diagram.draw(pairs, product.size, allowed());
        return diagram.total;
    }

    // ---- explanations

    /** Promise 27. */
    public int whyByRules(int feature, int option)
            throws IndexOutOfBoundsException, IllegalStateException {
        checkOption(feature, option);
        if (!explain(feature, option)) {
            throw new IllegalStateException("some configuration has the option");
        }
        return explanation.rules;
    }

    /** Promise 28. */
    public int whyByChoices(int feature, int option)
            throws IndexOutOfBoundsException, IllegalStateException {
        checkOption(feature, option);
        if (!explain(feature, option)) {
            throw new IllegalStateException("some configuration has the option");
        }
        return explanation.choosers;
    }

    // ---- prices

    /** Promise 29. */
    public int price() throws IllegalStateException {
        if (made.size < product.size) {
            throw new IllegalStateException("some feature has no choice");
        }
        return search.least(pairs, prices, product.size, allowed());
    }

    /** Promise 30. */
    public int leastPrice() {
        return search.least(pairs, prices, product.size, allowed());
    }

    /** Promise 31. */
    public int greatestPrice() {
        return search.greatest(pairs, prices, product.size, allowed());
    }

    /** Promise 32. */
    public int cheapest(int feature) throws IndexOutOfBoundsException {
        checkFeature(feature);
        search.least(pairs, prices, product.size, allowed());
        return lowestOf(setOf(search.configuration, feature));
    }

    /** Promise 33. */
    public int leastWith(int feature, int option)
            throws IndexOutOfBoundsException, IllegalStateException {
        checkOption(feature, option);
        checkOffered(feature, option);
        return search.least(pairs, prices, product.size, only(allowed(), feature, option));
    }

    // ---- what the calls are made of

    private void checkFeature(int feature) {
        if (!product.has(feature)) {
            throw new IndexOutOfBoundsException("no such feature");
        }
    }

    private void checkOption(int feature, int option) {
        checkFeature(feature);
        if (option < 0 || option >= product.options[feature]) {
            throw new IndexOutOfBoundsException("no such option");
        }
    }

    private void checkRule(int rule) {
        if (rule < 0 || rule >= ruleBook.size) {
            throw new IndexOutOfBoundsException("no such rule");
        }
    }

    private void checkDifferent(int feature, int other) {
        if (feature == other) {
            throw new IllegalArgumentException("both features are the same");
        }
    }

    private void checkPossible(Pairs tried) {
        if (!tried.leaveSome(allowed(), product.size)) {
            throw new IllegalStateException("no configuration would be possible");
        }
    }

    private void checkOffered(int feature, int option) {
        if (!isOffered(feature, option)) {
            throw new IllegalStateException("the option is not offered");
        }
    }

    private boolean explain(int feature, int option) {
        return explanation.find(ruleBook, made, product.size,
                only(product.all, feature, option), feature);
    }

    /** All options, but of a feature with a choice only the one that is chosen. */
    private int allowed() {
        return made.narrow(product.all, made.features);
    }

    private boolean isOffered(int feature, int option) {
        int sets = allowed();
        return holds(sets, slotOf(feature, option))
                && pairs.leaveSome(only(sets, feature, option), product.size);
    }

    private int offeredOf(int feature) {
        int set = 0;
        for (int option = 0; option < MOST_OPTIONS; option++) {
            if (isOffered(feature, option)) {
                set |= 1 << option;
            }
        }
        return set;
    }

    /** How many configurations from these sets, with these options taken so far, keep the rules. */
    private static int tryFrom(Rules rules, int features, int feature, int sets, int taken) {
        if (feature >= features) {
            return rules.areKeptBy(taken) ? 1 : 0;
        }
        int sum = 0;
        for (int option = 0; option < MOST_OPTIONS; option++) {
            int slot = slotOf(feature, option);
            if (holds(sets, slot)) {
                sum += tryFrom(rules, features, feature + 1, sets, taken | 1 << slot);
            }
        }
        return sum;
    }

    private static int slotOf(int feature, int option) {
        return feature * MOST_OPTIONS + option;
    }

    private static boolean holds(int bits, int number) {
        return (bits >> number & 1) != 0;
    }

    private static int setOf(int sets, int feature) {
        return sets >> feature * MOST_OPTIONS & FIVE_OPTIONS;
    }

    /** The sets, but the one of a feature holding nothing but an option. */
    private static int only(int sets, int feature, int option) {
        return sets & ~(FIVE_OPTIONS << feature * MOST_OPTIONS) | 1 << slotOf(feature, option);
    }

    private static boolean isSomeLeftFrom(int feature, int features, int sets) {
        for (int f = feature; f < features; f++) {
            if (setOf(sets, f) == 0) {
                return false;
            }
        }
        return true;
    }

    private static int lowestOf(int set) {
        for (int option = 0; option < MOST_OPTIONS; option++) {
            if (holds(set, option)) {
                return option;
            }
        }
        return NONE;
    }

    /** The features, each with the number of its options. */
    private static final class Features {
        int size;
        int all;
        final int[] options = new int[MOST_FEATURES];

        boolean add(int number) {
            if (size >= MOST_FEATURES) {
                return false;
            }
            options[size] = number;
            all |= (1 << number) - 1 << size * MOST_OPTIONS;
            size++;
            return true;
        }

        boolean has(int feature) {
            return feature >= 0 && feature < size;
        }
    }

    /** The rules, each about two slots; those that are on as bits. */
    private static final class Rules {
        int size;
        int on;
        final int[] kinds = new int[MOST_RULES];
        final int[] slots = new int[MOST_RULES];
        final int[] others = new int[MOST_RULES];

        boolean add(int kind, int slot, int other) {
            if (size >= MOST_RULES) {
                return false;
            }
            kinds[size] = kind;
            slots[size] = slot;
            others[size] = other;
            on |= 1 << size;
            size++;
            return true;
        }

        boolean areKeptBy(int configuration) {
            for (int rule = 0; rule < size; rule++) {
                if (holds(on, rule) && !isKept(kinds[rule],
                        holds(configuration, slots[rule]), holds(configuration, others[rule]))) {
                    return false;
                }
            }
            return true;
        }

        private static boolean isKept(int kind, boolean hasOne, boolean hasOther) {
            switch (kind) {
                case EXCLUDES:
                    return !(hasOne && hasOther);
                case REQUIRES:
                    return !hasOne || hasOther;
                default:
                    return hasOne == hasOther;
            }
        }
    }

    /**
     * Which options go together by some of the rules. A rule is about two features, so that a
     * configuration keeps them all just if each two of its options go together.
     */
    private static final class Pairs {
        /** For each slot what goes together with it; of its own feature the slot alone. */
        final int[] partners = new int[MOST_SLOTS];

        Pairs() {
            forget();
        }

        private void forget() {
            int everything = (1 << MOST_SLOTS) - 1;
            for (int slot = 0; slot < MOST_SLOTS; slot++) {
                partners[slot] = only(everything, slot / MOST_OPTIONS, slot % MOST_OPTIONS);
            }
        }

        void keepOnly(Rules rules, int which) {
            forget();
            for (int rule = 0; rule < rules.size; rule++) {
                if (holds(which, rule)) {
                    keep(rules.kinds[rule], rules.slots[rule], rules.others[rule]);
                }
            }
        }

        void keep(int kind, int slot, int other) {
            if (kind == EXCLUDES) {
                part(slot, other);
                return;
            }
            partFromAllBut(slot, other);
            if (kind == TOGETHER) {
                partFromAllBut(other, slot);
            }
        }

        private void part(int slot, int other) {
            partners[slot] &= ~(1 << other);
            partners[other] &= ~(1 << slot);
        }

        private void partFromAllBut(int slot, int other) {
            int first = other - other % MOST_OPTIONS;
            for (int k = first; k < first + MOST_OPTIONS; k++) {
                if (k != other) {
                    part(slot, k);
                }
            }
        }

        /** Whether these sets hold a configuration whose options all go together. */
        boolean leaveSome(int sets, int features) {
            return leaveSomeFrom(partners, features, 0, sets);
        }

        private static boolean leaveSomeFrom(int[] partners, int features, int feature, int sets) {
            if (feature >= features) {
                return true;
            }
            for (int option = 0; option < MOST_OPTIONS; option++) {
                int slot = slotOf(feature, option);
                if (holds(sets, slot)) {
                    int left = sets & partners[slot];
                    if (isSomeLeftFrom(feature + 1, features, left)
                            && leaveSomeFrom(partners, features, feature + 1, left)) {
                        return true;
                    }
                }
            }
            return false;
        }

        /** Strikes by rounds, since what is struck may leave other options without a partner. */
        int narrow(int sets, int features) {
            int left = sets;
            for (int round = 0; round < MOST_SLOTS; round++) {
                int before = left;
                for (int slot = 0; slot < MOST_SLOTS; slot++) {
                    if (holds(left, slot) && !isSomeLeftFrom(0, features, left & partners[slot])) {
                        left &= ~(1 << slot);
                    }
                }
                if (left == before) {
                    return left;
                }
            }
            return left;
        }
    }

    /** The choices in their order; the features that have one also as bits. */
    private static final class Choices {
        int size;
        int features;
        final int[] order = new int[MOST_FEATURES];
        final int[] options = new int[MOST_FEATURES];

        boolean has(int feature) {
            return feature >= 0 && feature < MOST_FEATURES && holds(features, feature);
        }

        int optionOf(int feature) {
            return has(feature) ? options[feature] : NONE;
        }

        void add(int feature, int option) {
            if (size >= MOST_FEATURES || has(feature)) {
                return;
            }
            order[size] = feature;
            options[feature] = option;
            features |= 1 << feature;
            size++;
        }

        void remove(int feature) {
            if (!has(feature)) {
                return;
            }
            int kept = 0;
            for (int k = 0; k < size; k++) {
                if (order[k] != feature) {
                    order[kept] = order[k];
                    kept++;
                }
            }
            size = kept;
            features &= ~(1 << feature);
        }

        void clear() {
            size = 0;
            features = 0;
        }

        /** The feature, of these, whose choice is the latest one. */
        int latestOf(int these) {
            for (int k = size - 1; k >= 0; k--) {
                if (holds(these, order[k])) {
                    return order[k];
                }
            }
            return NONE;
        }

        /** The sets, with nothing but the choice for each of these features. */
        int narrow(int sets, int these) {
            int left = sets;
            for (int k = 0; k < size; k++) {
                if (holds(these, order[k])) {
                    left = only(left, order[k], options[order[k]]);
                }
            }
            return left;
        }
    }

    /** The wishes as slots, in their order. */
    private static final class Defaults {
        int size;
        final int[] slots = new int[MOST_DEFAULTS];

        boolean add(int slot) {
            if (size >= MOST_DEFAULTS) {
                return false;
            }
            slots[size] = slot;
            size++;
            return true;
        }
    }

    /** The prices of the options, and the surcharges, each for the two slots in its bits. */
    private static final class Prices {
        final int[] ofSlots = new int[MOST_SLOTS];
        int surcharges;
        final int[] both = new int[MOST_SURCHARGES];
        final int[] amounts = new int[MOST_SURCHARGES];

        boolean add(int slots, int amount) {
            if (surcharges >= MOST_SURCHARGES) {
                return false;
            }
            both[surcharges] = slots;
            amounts[surcharges] = amount;
            surcharges++;
            return true;
        }

        int surchargesOf(int configuration) {
            int sum = 0;
            for (int k = 0; k < surcharges; k++) {
                if ((configuration & both[k]) == both[k]) {
                    sum += amounts[k];
                }
            }
            return sum;
        }
    }

    /** Looks for the possible configuration with the best price, of several for the first one. */
    private static final class PriceSearch {
        int configuration;
        private boolean isFound;
        private int best;
        /** Prices are compared times this: one search serves for the least and the greatest. */
        private int sign;

        int least(Pairs pairs, Prices prices, int features, int sets) {
            start(1);
            lookFrom(this, pairs, prices, features, 0, sets, 0);
            return best;
        }

        int greatest(Pairs pairs, Prices prices, int features, int sets) {
            start(-1);
            lookFrom(this, pairs, prices, features, 0, sets, 0);
            return best;
        }

        private void start(int newSign) {
            sign = newSign;
            isFound = false;
        }

        private void meet(int met, int price) {
            if (!isFound || sign * price < sign * best) {
                isFound = true;
                best = price;
                configuration = met;
            }
        }

        private static void lookFrom(PriceSearch search, Pairs pairs, Prices prices,
                int features, int feature, int sets, int sum) {
            if (feature >= features) {
                search.meet(sets, sum + prices.surchargesOf(sets));
                return;
            }
            for (int option = 0; option < MOST_OPTIONS; option++) {
                int slot = slotOf(feature, option);
                if (holds(sets, slot)) {
                    int left = sets & pairs.partners[slot];
                    if (isSomeLeftFrom(feature + 1, features, left)) {
                        lookFrom(search, pairs, prices, features, feature + 1, left,
                                sum + prices.ofSlots[slot]);
                    }
                }
            }
        }
    }

    /** The diagram, a level at a time: each node as its sets, with the number of ways to it. */
    private static final class Diagram {
        /**
         * Five options for each of four features make 625 ways to the level 4; from there on the
         * sets of two features or fewer are left: at most 31 nodes at the level 5, and one behind.
         */
        private static final int MOST_NODES = 625;

        int total;
        private int size;
        private int nextSize;
        private int[] sets = new int[MOST_NODES];
        private int[] ways = new int[MOST_NODES];
        private int[] nextSets = new int[MOST_NODES];
        private int[] nextWays = new int[MOST_NODES];

        void draw(Pairs pairs, int features, int allowed) {
            sets[0] = allowed;
            ways[0] = 1;
            size = 1;
            total = 1;
            for (int level = 0; level < features; level++) {
                nextSize = 0;
                for (int node = 0; node < size; node++) {
                    leadOn(pairs, features, level, node);
                }
                goToNextLevel();
                total += size;
            }
        }

        int waysToLastLevel() {
            return size == 0 ? 0 : ways[0];
        }

        private void leadOn(Pairs pairs, int features, int level, int node) {
            int tellsFromNext = -1 << (level + 1) * MOST_OPTIONS;
            for (int option = 0; option < MOST_OPTIONS; option++) {
                int slot = slotOf(level, option);
                if (holds(sets[node], slot)) {
                    int left = sets[node] & pairs.partners[slot] & tellsFromNext;
                    if (isSomeLeftFrom(level + 1, features, left)) {
                        enter(left, ways[node]);
                    }
                }
            }
        }

        private void enter(int left, int moreWays) {
            for (int node = 0; node < nextSize; node++) {
                if (nextSets[node] == left) {
                    nextWays[node] += moreWays;
                    return;
                }
            }
            if (nextSize < MOST_NODES) {
                nextSets[nextSize] = left;
                nextWays[nextSize] = moreWays;
                nextSize++;
            }
        }

        private void goToNextLevel() {
            int[] freeSets = sets;
            int[] freeWays = ways;
            sets = nextSets;
            ways = nextWays;
            size = nextSize;
            nextSets = freeSets;
            nextWays = freeWays;
        }
    }

    /** Why no configuration has an option: the rules as bits, and the features with the choices. */
    private static final class Explanation {
        int rules;
        int choosers;
        private final Pairs kept = new Pairs();

        /**
         * Returns false if some configuration has the option and keeps rules and choices.
         * The sets hold nothing but the option for the feature, and all options for the others.
         */
        boolean find(Rules book, Choices choices, int features, int sets, int feature) {
            rules = book.on;
            choosers = choices.features & ~(1 << feature);
            kept.keepOnly(book, rules);
            if (kept.leaveSome(choices.narrow(sets, choosers), features)) {
                return false;
            }
            leaveOutRules(book, features, choices.narrow(sets, choosers));
            leaveOutChoices(choices, features, sets);
            return true;
        }

        private void leaveOutRules(Rules book, int features, int sets) {
            for (int rule = book.size - 1; rule >= 0; rule--) {
                if (holds(rules, rule)) {
                    int without = rules & ~(1 << rule);
                    kept.keepOnly(book, without);
                    rules = kept.leaveSome(sets, features) ? rules : without;
                }
            }
            kept.keepOnly(book, rules);
        }

        private void leaveOutChoices(Choices choices, int features, int sets) {
            for (int k = choices.size - 1; k >= 0; k--) {
                int without = choosers & ~(1 << choices.order[k]);
                int left = choices.narrow(sets, without);
                choosers = kept.leaveSome(left, features) ? choosers : without;
            }
        }
    }
}
