/**
 * A reasoner with facts, strict rules and defaults, which conclude something as long as nothing
 * speaks against it. It finds all extensions and tells which of them are preferred.
 *
 * <p>A set of literals is held as the sum of the powers 2^l of its literals, and a set of defaults,
 * here called a selection, as the sum of the powers 2^d of its defaults.
 */
public final class DefaultReasoner {
    private static final int ATOMS = 8;
    private static final int LITERALS = 16;
    private static final int TRUE_LITERALS = 255;
    private static final int ALL_LITERALS = 65535;
    private static final int MAX_RULES = 16;
    private static final int MAX_DEFAULTS = 6;
    private static final int MAX_SELECTIONS = 64;
    private static final int NO_DEFAULT = -1;
    private static final long DIGEST_START = 113;
    private static final long DIGEST_FACTOR = 31;

    /** How many orders there are of 0 to 6 defaults. */
    private static final int[] ORDERS = {1, 1, 2, 6, 24, 120, 720};

    private int factSet;
    private int ruleTotal;
    private final int[] bodies;
    private final int[] heads;
    private int defaultTotal;
    private final int[] prerequisites;
    private final int[] justifications;
    private final int[] conclusions;
    private final Priorities priorities;

    private final int[] latestWalk;
    private int latestTotal;

    /** The order that is looked at now; only a place to work in, no state between calls. */
    private final int[] lineup;

    /** For each selection, the closure of the facts and its conclusions. */
    private final int[] held;
    /** For each selection, the defaults that a walk which has applied just these may apply next. */
    private final int[] usable;
    private final int[] extensions;
    private int extensionTotal;
    /** Whether held, usable and extensions fit the theory as it is. */
    private boolean extensionsKnown;

    private final boolean[] preferred;
    private int preferredTotal;
    /** Whether preferred fits the theory and the priorities as they are. */
    private boolean preferredKnown;

    public DefaultReasoner() {
        bodies = new int[MAX_RULES];
        heads = new int[MAX_RULES];
        prerequisites = new int[MAX_DEFAULTS];
        justifications = new int[MAX_DEFAULTS];
        conclusions = new int[MAX_DEFAULTS];
        priorities = new Priorities();
        latestWalk = new int[MAX_DEFAULTS];
        lineup = new int[MAX_DEFAULTS];
        held = new int[MAX_SELECTIONS];
        usable = new int[MAX_SELECTIONS];
        extensions = new int[MAX_SELECTIONS];
        preferred = new boolean[MAX_SELECTIONS];
    }

    // ---- theory

    public boolean setFact(int literal, boolean isFact) throws IndexOutOfBoundsException {
        checkLiteral(literal);
        boolean was = has(factSet, literal);
        factSet = isFact ? factSet | 1 << literal : factSet & ~(1 << literal);
        forgetFindings();
        return was;
    }

    public int addRule(int body, int head)
            throws IndexOutOfBoundsException, IllegalArgumentException, IllegalStateException {
        checkLiteral(head);
        checkSet(body);
        if (ruleTotal >= MAX_RULES) {
            throw new IllegalStateException("there are 16 strict rules");
        }
        int number = ruleTotal;
        bodies[number] = body;
        heads[number] = head;
        ruleTotal = number + 1;
        forgetFindings();
        return number;
    }

    public int addDefault(int prerequisite, int justifications, int conclusion)
            throws IndexOutOfBoundsException, IllegalArgumentException, IllegalStateException {
        checkLiteral(conclusion);
        checkSet(prerequisite);
        checkSet(justifications);
        if (defaultTotal >= MAX_DEFAULTS) {
            throw new IllegalStateException("there are 6 defaults");
        }
        int number = defaultTotal;
        prerequisites[number] = prerequisite;
        this.justifications[number] = justifications;
        conclusions[number] = conclusion;
        defaultTotal = number + 1;
        forgetFindings();
        return number;
    }

    public int dropRule() throws IllegalStateException {
        if (ruleTotal <= 0) {
            throw new IllegalStateException("there is no strict rule");
        }
        ruleTotal--;
        forgetFindings();
        return ruleTotal;
    }

    public int dropDefault() throws IllegalStateException {
        if (defaultTotal <= 0) {
            throw new IllegalStateException("there is no default");
        }
        defaultTotal--;
        priorities.removeAllWith(defaultTotal);
        forgetFindings();
        return defaultTotal;
    }

    public boolean prefer(int a, int b) throws IndexOutOfBoundsException, IllegalArgumentException {
        checkDefault(a);
        checkDefault(b);
        if (a == b || priorities.comesBefore(b, a)) {
            throw new IllegalArgumentException("a default would come before itself");
        }
        boolean came = priorities.comesBefore(a, b);
        priorities.put(a, b);
        preferredKnown = false;
        return came;
    }

    public int forgetPriorities() {
        int pairs = priorities.pairs();
        priorities.clear();
        preferredKnown = false;
        return pairs;
    }

    public boolean isBefore(int a, int b) throws IndexOutOfBoundsException {
        checkDefault(a);
        checkDefault(b);
        return priorities.comesBefore(a, b);
    }

    public int facts() {
        return factSet;
    }

    public int defaultCount() {
        return defaultTotal;
    }

    // ---- closures

    public int closure(int set) throws IllegalArgumentException {
        checkSet(set);
        return closeUp(set);
    }

    public boolean isOpen(int which, int set)
            throws IndexOutOfBoundsException, IllegalArgumentException {
        checkDefault(which);
        checkSet(set);
        return opens(which, set);
    }

    public int generatorsOf(int set) throws IllegalArgumentException {
        checkSet(set);
        findExtensions();
        return generatorsFor(set);
    }

    public boolean isExtension(int set) throws IllegalArgumentException {
        checkSet(set);
        findExtensions();
        return held[generatorsFor(set)] == set;
    }

    // ---- extensions

    public int extensionCount() {
        findExtensions();
        return extensionTotal;
    }

    public int extension(int index) throws IndexOutOfBoundsException {
        findExtensions();
        checkExtension(index);
        return extensions[index];
    }

    public boolean isPreferred(int index) throws IndexOutOfBoundsException {
        findPreferred();
        checkExtension(index);
        return preferred[index];
    }

    public int preferredCount() {
        findPreferred();
        return preferredTotal;
    }

    public int supports(int literal) throws IndexOutOfBoundsException {
        checkLiteral(literal);
        findExtensions();
        int count = 0;
        for (int i = 0; i < extensionTotal; i++) {
            if (has(extensions[i], literal)) {
                count++;
            }
        }
        return count;
    }

    public int common(boolean onlyPreferred) {
        findPreferred();
        int shared = ALL_LITERALS;
        for (int i = 0; i < extensionTotal; i++) {
            if (preferred[i] || !onlyPreferred) {
                shared &= extensions[i];
            }
        }
        return shared;
    }

    public double share(int literal) throws IndexOutOfBoundsException {
        checkLiteral(literal);
        findPreferred();
        if (preferredTotal == 0) {
            return 0;
        }
        int count = 0;
        for (int i = 0; i < extensionTotal; i++) {
            if (preferred[i] && has(extensions[i], literal)) {
                count++;
            }
        }
        return (double) count / preferredTotal;
    }

    // ---- walks

    public int walk(int order) throws IllegalArgumentException {
        checkOrder(order);
        findExtensions();
        layOut(order);
        int done = 0;
        latestTotal = 0;
        for (int step = 0; step < defaultTotal; step++) {
            int next = firstUsable(done);
            if (next == NO_DEFAULT) {
                break;
            }
            latestWalk[step] = next;
            latestTotal = step + 1;
            done |= 1 << next;
        }
        return held[done];
    }

    public int appliedCount() {
        return latestTotal;
    }

    public int applied(int index) throws IndexOutOfBoundsException {
        if (index < 0 || index >= latestTotal) {
            throw new IndexOutOfBoundsException("the latest walk has no such index");
        }
        return latestWalk[index];
    }

    public boolean respects(int order) throws IllegalArgumentException {
        checkOrder(order);
        layOut(order);
        return keepsPriorities();
    }

    public long digest() {
        long d = mix(DIGEST_START, factSet);
        d = mix(d, ruleTotal);
        for (int r = 0; r < ruleTotal; r++) {
            d = mix(mix(d, bodies[r]), heads[r]);
        }
        d = mix(d, defaultTotal);
        for (int i = 0; i < defaultTotal; i++) {
            d = mix(mix(mix(d, prerequisites[i]), justifications[i]), conclusions[i]);
        }
        for (int a = 0; a < defaultTotal; a++) {
            for (int b = 0; b < defaultTotal; b++) {
                d = mix(d, priorities.comesBefore(a, b) ? 1 : 0);
            }
        }
        d = mix(d, latestTotal);
        for (int i = 0; i < latestTotal; i++) {
            d = mix(d, latestWalk[i]);
        }
        return d;
    }

    // ---- arguments

    private static void checkLiteral(int literal) {
        if (literal < 0 || literal >= LITERALS) {
            throw new IndexOutOfBoundsException("a literal is 0 to 15");
        }
    }

    private static void checkSet(int set) {
        if (set < 0 || set > ALL_LITERALS) {
            throw new IllegalArgumentException("a set is 0 to 65535");
        }
    }

    private void checkDefault(int number) {
        if (number < 0 || number >= defaultTotal) {
            throw new IndexOutOfBoundsException("there is no such default");
        }
    }

    private void checkExtension(int index) {
        if (index < 0 || index >= extensionTotal) {
            throw new IndexOutOfBoundsException("there is no such extension");
        }
    }

    private void checkOrder(int number) {
        if (number < 0 || number >= ORDERS[defaultTotal]) {
            throw new IllegalArgumentException("there is no such order");
        }
    }

    // ---- sets

    private static boolean has(int set, int element) {
        return (set >>> element & 1) != 0;
    }

    private static boolean contains(int set, int part) {
        return (part & ~set) == 0;
    }

    private static int complements(int set) {
        return (set & TRUE_LITERALS) << ATOMS | set >>> ATOMS & TRUE_LITERALS;
    }

    private static long mix(long d, long x) {
        return d * DIGEST_FACTOR + x;
    }

    private int closeUp(int set) {
        int closed = set;
        // A pass that adds nothing is the last one, so there is never one more than literals + 1.
        for (int pass = 0; pass <= LITERALS; pass++) {
            int earlier = closed;
            for (int r = 0; r < ruleTotal; r++) {
                if (contains(closed, bodies[r])) {
                    closed |= 1 << heads[r];
                }
            }
            if (closed == earlier) {
                break;
            }
        }
        return (closed & complements(closed)) != 0 ? ALL_LITERALS : closed;
    }

    private boolean opens(int number, int set) {
        return (complements(justifications[number]) & set) == 0;
    }

    // ---- what is found out about the theory, and kept until it changes

    private void forgetFindings() {
        extensionsKnown = false;
        preferredKnown = false;
    }

    private void findExtensions() {
        if (extensionsKnown) {
            return;
        }
        int selections = 1 << defaultTotal;
        for (int selection = 0; selection < selections; selection++) {
            held[selection] = closeUp(factSet | conclusionsOf(selection));
            usable[selection] = usableFor(held[selection]);
        }
        extensionTotal = 0;
        // An extension has just one set of generators, so none is found twice.
        for (int selection = 0; selection < selections; selection++) {
            if (generatorsFor(held[selection]) == selection) {
                insertExtension(held[selection]);
            }
        }
        extensionsKnown = true;
    }

    private int conclusionsOf(int selection) {
        int set = 0;
        for (int i = 0; i < defaultTotal; i++) {
            if (has(selection, i)) {
                set |= 1 << conclusions[i];
            }
        }
        return set;
    }

    private int usableFor(int set) {
        int selection = 0;
        for (int i = 0; i < defaultTotal; i++) {
            if (contains(set, prerequisites[i]) && opens(i, set) && !has(set, conclusions[i])) {
                selection |= 1 << i;
            }
        }
        return selection;
    }

    /** Needs held to be filled. */
    private int generatorsFor(int set) {
        int chosen = 0;
        // Each round but the last adds a default.
        for (int round = 0; round <= defaultTotal; round++) {
            int earlier = chosen;
            for (int i = 0; i < defaultTotal; i++) {
                if (opens(i, set) && contains(held[chosen], prerequisites[i])) {
                    chosen |= 1 << i;
                }
            }
            if (chosen == earlier) {
                break;
            }
        }
        return chosen;
    }

    private void insertExtension(int set) {
        if (extensionTotal >= MAX_SELECTIONS) {
            return;
        }
        int place = extensionTotal;
        while (place > 0 && extensions[place - 1] > set) {
            extensions[place] = extensions[place - 1];
            place--;
        }
        extensions[place] = set;
        extensionTotal++;
    }

    private void findPreferred() {
        if (preferredKnown) {
            return;
        }
        findExtensions();
        for (int i = 0; i < extensionTotal; i++) {
            preferred[i] = false;
        }
        preferredTotal = 0;
        int orders = ORDERS[defaultTotal];
        // Once all extensions are preferred, more orders can't add one.
        for (int number = 0; number < orders && preferredTotal < extensionTotal; number++) {
            layOut(number);
            if (keepsPriorities()) {
                markPreferred(endOfWalk());
            }
        }
        preferredKnown = true;
    }

    /** The end of a walk need not be an extension; then nothing is marked. */
    private void markPreferred(int end) {
        for (int i = 0; i < extensionTotal; i++) {
            if (extensions[i] == end && !preferred[i]) {
                preferred[i] = true;
                preferredTotal++;
            }
        }
    }

    // ---- orders

    /** Fills lineup with the order of that number. */
    private void layOut(int number) {
        int rest = number;
        int placed = 0;
        for (int place = 0; place < defaultTotal; place++) {
            // So many orders in a row have the same default at this place.
            int block = ORDERS[defaultTotal - 1 - place];
            for (int i = 0; i < defaultTotal; i++) {
                if (has(placed, i)) {
                    continue;
                }
                if (rest < block) {
                    lineup[place] = i;
                    placed |= 1 << i;
                    break;
                }
                rest -= block;
            }
        }
    }

    private boolean keepsPriorities() {
        int ahead = 0;
        for (int place = 0; place < defaultTotal; place++) {
            int number = lineup[place];
            if (priorities.comesBeforeOneOf(number, ahead)) {
                return false;
            }
            ahead |= 1 << number;
        }
        return true;
    }

    /** The set with which a walk through lineup ends. */
    private int endOfWalk() {
        int done = 0;
        for (int step = 0; step < defaultTotal; step++) {
            int next = firstUsable(done);
            if (next == NO_DEFAULT) {
                break;
            }
            done |= 1 << next;
        }
        return held[done];
    }

    /** The first default in lineup that is usable when those of the selection are applied. */
    private int firstUsable(int selection) {
        for (int place = 0; place < defaultTotal; place++) {
            if (has(usable[selection], lineup[place])) {
                return lineup[place];
            }
        }
        return NO_DEFAULT;
    }

    /** Which default is preferred to which, and which comes before which by a chain of these. */
    private static final class Priorities {
        /** For each default, those that it was preferred to. */
        private final int[] given;
        /** For each default, those that it comes before. */
        private final int[] reached;

        private Priorities() {
            given = new int[MAX_DEFAULTS];
            reached = new int[MAX_DEFAULTS];
        }

        private boolean comesBefore(int a, int b) {
            return has(reached[a], b);
        }

        private boolean comesBeforeOneOf(int a, int selection) {
            return (reached[a] & selection) != 0;
        }

        /** Kept even if a comes before b already: the other chain may lose a default later. */
        private void put(int a, int b) {
            given[a] |= 1 << b;
            followChains();
        }

        private void removeAllWith(int number) {
            for (int a = 0; a < MAX_DEFAULTS; a++) {
                given[a] &= ~(1 << number);
            }
            given[number] = 0;
            followChains();
        }

        private void clear() {
            for (int a = 0; a < MAX_DEFAULTS; a++) {
                given[a] = 0;
                reached[a] = 0;
            }
        }

        private int pairs() {
            int count = 0;
            for (int a = 0; a < MAX_DEFAULTS; a++) {
                count += Integer.bitCount(reached[a]);
            }
            return count;
        }

        private void followChains() {
            for (int a = 0; a < MAX_DEFAULTS; a++) {
                reached[a] = given[a];
            }
            for (int middle = 0; middle < MAX_DEFAULTS; middle++) {
                for (int a = 0; a < MAX_DEFAULTS; a++) {
                    if (has(reached[a], middle)) {
                        reached[a] |= reached[middle];
                    }
                }
            }
        }
    }
}
