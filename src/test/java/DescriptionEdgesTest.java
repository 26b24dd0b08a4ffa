/** The sentences of the document before its promises, each with a test of its own at its edges. */
public final class DescriptionEdgesTest extends Sentences {
    private static final int CALLS = 512;
    private static final int[] ORDERS = {1, 1, 2, 6, 24, 120, 720};

    // ---- how long an object is used

    /** Whatever the 512th call is, it answers as it does on an object that has seen few calls. */
    private static void the512thCall() {
        Act[] last = {x -> x.setFact(15, false), x -> x.addRule(3, 3), x -> x.addDefault(0, 0, 6),
            DefaultReasoner::dropRule, DefaultReasoner::dropDefault, x -> x.prefer(2, 1),
            DefaultReasoner::forgetPriorities, x -> x.isBefore(1, 3), DefaultReasoner::facts,
            DefaultReasoner::defaultCount, x -> x.closure(set(2)), x -> x.isOpen(1, set(1)),
            x -> x.generatorsOf(set(1)), x -> x.isExtension(set(0, 1, 2, 3, 15)),
            DefaultReasoner::extensionCount, x -> x.extension(3), x -> x.isPreferred(0),
            DefaultReasoner::preferredCount, x -> x.supports(9), x -> x.common(true),
            x -> x.share(3), x -> x.walk(23), DefaultReasoner::appliedCount, x -> x.applied(1),
            x -> x.respects(23), DefaultReasoner::digest, x -> x.setFact(16, true)};
        for (int i = 0; i < last.length; i++) {
            DefaultReasoner used = new DefaultReasoner();
            // To make it busy takes 12 calls, and they come last, before the one that is looked at.
            int made = 12;
            for (; made < CALLS - 6; made += 5) {
                used.setFact(made % 16, true);
                used.preferredCount();
                used.setFact(made % 16, false);
                used.walk(0);
                answer(used, x -> x.applied(6));
            }
            for (; made < CALLS - 1; made++) {
                used.facts();
            }
            String late = answer(busyOn(used), last[i]);
            is("call " + i + " as the 512th", late, answer(busy(), last[i]));
        }
    }

    /** Calls of one kind only, as many as there may be: nothing fills up or runs over. */
    private static void callsOfOneKind() {
        DefaultReasoner x = new DefaultReasoner();
        for (int i = 0; i < CALLS / 2; i++) {
            x.addDefault(0, 0, i % 16);
            x.dropDefault();
        }
        is("digest() after 512 calls to add and drop", x.digest(), digestOf(0, 0, 0, 0));
        DefaultReasoner y = new DefaultReasoner();
        for (int i = 0; i < CALLS / 2; i++) {
            y.addRule(i, i % 16);
            y.dropRule();
        }
        is("digest() after 512 calls with rules", y.digest(), digestOf(0, 0, 0, 0));
        DefaultReasoner z = plain(6);
        int ends = 0;
        for (int i = 6; i < CALLS; i++) {
            ends += z.walk(i) == 63 ? 1 : 0;
        }
        is("walks that end with all", ends, 506);
        DefaultReasoner w = full();
        for (int i = 0; i < 480; i++) {
            answer(w, v -> v.addRule(0, 0));
        }
        is("digest() after refused calls", w.digest(), full().digest());
    }

    // ---- literals

    private static void sixteenLiterals() {
        DefaultReasoner x = new DefaultReasoner();
        for (int literal = 0; literal < 16; literal++) {
            is("setFact(" + literal + ", true)", x.setFact(literal, true), false);
        }
        throwsJust(x, "setFact(16, true)", INDEX, y -> y.setFact(16, true));
        throwsJust(x, "setFact(-1, true)", INDEX, y -> y.setFact(-1, true));
    }

    /** Of the 256 pairs, just those that are 8 apart contradict each other. */
    private static void complements() {
        DefaultReasoner x = new DefaultReasoner();
        for (int k = 0; k < 16; k++) {
            for (int l = 0; l < 16; l++) {
                int due = Math.abs(k - l) == 8 ? ALL : set(k, l);
                is("closure of " + k + " and " + l, x.closure(set(k, l)), due);
            }
        }
    }

    private static void complementsOfEachOther() {
        for (int k = 0; k < 16; k++) {
            DefaultReasoner x = new DefaultReasoner();
            x.addDefault(0, set(k), 0);
            for (int l = 0; l < 16; l++) {
                is("isOpen with " + k + " for " + l, x.isOpen(0, set(l)), Math.abs(k - l) != 8);
            }
        }
    }

    private static void setsAsSums() {
        DefaultReasoner x = new DefaultReasoner();
        int sum = 0;
        for (int literal = 15; literal >= 0; literal--) {
            x.setFact(literal, true);
            sum += 1 << literal;
            is("facts() down to " + literal, x.facts(), sum);
        }
        is("facts() with all", x.facts(), 65535);
        DefaultReasoner y = new DefaultReasoner();
        is("the empty set", y.closure(0), 0);
        is("the set of literal 0", y.closure(1), 1);
        is("the set of literal 15", y.closure(32768), 32768);
    }

    // ---- theory

    private static void factsEmptyAtFirst() {
        is("facts()", new DefaultReasoner().facts(), 0);
        is("the extension of no facts", new DefaultReasoner().extension(0), 0);
    }

    private static void sixteenRules() {
        DefaultReasoner x = new DefaultReasoner();
        for (int i = 0; i < 16; i++) {
            is("number of rule " + i, x.addRule(0, i % 8), i);
        }
        throwsJust(x, "a 17th rule", STATE, y -> y.addRule(0, 0));
        x.dropRule();
        is("number of a 16th rule again", x.addRule(set(0), 15), 15);
        is("closure(0) with the 16th rule", x.closure(0), ALL);
        throwsJust(x, "a 17th rule again", STATE, y -> y.addRule(0, 0));
    }

    private static void emptyBody() {
        for (int head = 0; head < 16; head++) {
            DefaultReasoner x = new DefaultReasoner();
            x.addRule(0, head);
            is("closure(0) with head " + head, x.closure(0), set(head));
            is("walk(0)", x.walk(0), set(head));
            is("extension(0)", x.extension(0), set(head));
        }
    }

    /** A body of all literals is a body too; only the set of all literals contains it. */
    private static void fullBody() {
        DefaultReasoner x = new DefaultReasoner();
        x.addRule(ALL, 0);
        is("closure(65280)", x.closure(65280), 65280);
        is("closure(254)", x.closure(254), 254);
        is("closure(65535)", x.closure(ALL), ALL);
    }

    private static void sixDefaults() {
        DefaultReasoner x = new DefaultReasoner();
        for (int i = 0; i < 6; i++) {
            is("number of default " + i, x.addDefault(0, 0, i), i);
        }
        throwsJust(x, "a 7th default", STATE, y -> y.addDefault(0, 0, 6));
        x.dropDefault();
        is("number of a 6th default again", x.addDefault(0, 0, 7), 5);
        is("extension(0) with the 6th default", x.extension(0), set(0, 1, 2, 3, 4, 7));
        throwsJust(x, "a 7th default again", STATE, y -> y.addDefault(0, 0, 6));
    }

    private static void emptyAndFullPartsOfDefaults() {
        DefaultReasoner x = new DefaultReasoner();
        x.addDefault(0, 0, 0);
        is("nothing needed, nothing against it", x.extension(0), set(0));
        DefaultReasoner y = new DefaultReasoner();
        y.addDefault(ALL, 0, 0);
        is("all needed", y.extension(0), 0);
        DefaultReasoner z = new DefaultReasoner();
        z.addDefault(0, ALL, 0);
        is("every literal against it: open for the empty set alone", z.generatorsOf(0), 1);
        is("its conclusion closes it", z.extensionCount(), 0);
    }

    private static void smallestClosure() {
        DefaultReasoner x = new DefaultReasoner();
        x.addRule(set(0, 1, 2), 3);
        is("closure(0)", x.closure(0), 0);
        is("with a body that lacks one", x.closure(set(0, 2)), set(0, 2));
        is("with the body", x.closure(set(0, 1, 2)), set(0, 1, 2, 3));
        is("with more than the body", x.closure(set(0, 1, 2, 4)), set(0, 1, 2, 3, 4));
        is("with the head alone", x.closure(set(3)), set(3));
        DefaultReasoner y = new DefaultReasoner();
        y.addRule(set(0), 0);
        is("a rule whose head is its body", y.closure(0), 0);
        y.addRule(set(1), 2);
        y.addRule(set(2), 1);
        is("two rules that need each other", y.closure(0), 0);
        is("two rules that give each other", y.closure(set(2)), set(1, 2));
    }

    /** The 16 rules stand against the chain, which goes through 8 literals and back to its start. */
    private static void longestChainOfRules() {
        DefaultReasoner x = new DefaultReasoner();
        int[] chain = {0, 1, 2, 3, 4, 5, 6, 7};
        for (int copy = 0; copy < 2; copy++) {
            for (int i = 7; i >= 0; i--) {
                x.addRule(set(chain[i]), chain[(i + 1) % 8]);
            }
        }
        for (int start = 0; start < 8; start++) {
            is("closure from " + start, x.closure(set(start)), 255);
        }
        DefaultReasoner y = new DefaultReasoner();
        y.addRule(set(8), 9);
        for (int i = 6; i >= 0; i--) {
            y.addRule(set(i), i + 1);
        }
        y.addRule(set(7, 0), 8);
        is("a contradiction at the chain's end", y.closure(set(0)), ALL);
        is("the chain without its start", y.closure(set(1)), 254);
    }

    private static void contradictions() {
        for (int negative = 0; negative < 256; negative++) {
            DefaultReasoner x = new DefaultReasoner();
            int whole = negative << 8 | 255 & ~negative;
            is("a set that decides each atom once", x.closure(whole), whole);
            int atom = negative % 8;
            is("with one literal more", x.closure(whole | set(atom, atom + 8)), ALL);
        }
        DefaultReasoner y = new DefaultReasoner();
        y.addRule(set(7), 15);
        is("a rule that contradicts its body", y.closure(set(7)), ALL);
        is("where its body is not", y.closure(set(15)), set(15));
        DefaultReasoner z = new DefaultReasoner();
        z.addRule(0, 0);
        z.addRule(0, 8);
        is("rules that contradict each other", z.closure(0), ALL);
    }

    private static void openDefaults() {
        DefaultReasoner x = new DefaultReasoner();
        x.addDefault(0, 0, 0);
        x.addDefault(0, ALL, 0);
        x.addDefault(0, set(7, 8), 0);
        is("without justifications, for all literals", x.isOpen(0, ALL), true);
        is("with all justifications, for none", x.isOpen(1, 0), true);
        for (int literal = 0; literal < 16; literal++) {
            is("with all justifications, for " + literal, x.isOpen(1, set(literal)), false);
            is("with 7 and 8, for " + literal, x.isOpen(2, set(literal)), literal != 15 && literal != 0);
        }
        is("with 7 and 8, for all but their complements", x.isOpen(2, ALL & ~set(15, 0)), true);
        is("with 7 and 8, for one complement", x.isOpen(2, ALL & ~set(15)), false);
        is("with 7 and 8, for the other complement", x.isOpen(2, ALL & ~set(0)), false);
    }

    // ---- extensions

    private static void smallestGenerators() {
        is("without defaults", new DefaultReasoner().generatorsOf(0), 0);
        DefaultReasoner x = new DefaultReasoner();
        x.addDefault(set(0), 0, 0);
        is("a default that needs its own conclusion", x.generatorsOf(set(0)), 0);
        x.addDefault(set(2), 0, 1);
        x.addDefault(set(1), 0, 2);
        is("defaults that need each other", x.generatorsOf(set(0, 1, 2)), 0);
        x.setFact(1, true);
        is("defaults of which a fact starts one", x.generatorsOf(0), 4 + 2);
        DefaultReasoner y = plain(6);
        is("six defaults", y.generatorsOf(0), 63);
        y.addRule(set(0, 5), 8);
        is("six defaults that contradict", y.generatorsOf(0), 63);
        DefaultReasoner z = new DefaultReasoner();
        z.addRule(set(3), 4);
        z.addDefault(set(4), 0, 5);
        z.addDefault(0, 0, 3);
        is("a prerequisite that a rule gives", z.generatorsOf(0), 3);
    }

    private static void isTheClosure() {
        DefaultReasoner x = busy();
        int e = x.extension(0);
        is("an extension", x.isExtension(e), true);
        for (int literal = 0; literal < 16; literal++) {
            is("an extension with " + literal + " changed", x.isExtension(e ^ set(literal)), false);
        }
        is("no extension", hopeless().isExtension(0) || hopeless().isExtension(set(8)), false);
        DefaultReasoner y = new DefaultReasoner();
        is("the closure of nothing", y.isExtension(0), true);
        y.setFact(0, true);
        y.setFact(8, true);
        is("all literals", y.isExtension(ALL), true);
        is("facts that are not closed", y.isExtension(set(0, 8)), false);
    }

    private static void ascending() {
        DefaultReasoner x = new DefaultReasoner();
        for (int atom = 7; atom > 4; atom--) {
            x.addDefault(0, set(atom + 8), atom + 8);
            x.addDefault(0, set(atom), atom);
        }
        int[] due = {set(5, 6, 7), set(6, 7, 13), set(5, 7, 14), set(7, 13, 14), set(5, 6, 15),
            set(6, 13, 15), set(5, 14, 15), set(13, 14, 15)};
        is("extensionCount()", x.extensionCount(), due.length);
        for (int i = 0; i < due.length; i++) {
            is("extension(" + i + ")", x.extension(i), due[i]);
        }
    }

    // ---- priorities

    private static void preferredToAnother() {
        DefaultReasoner x = plain(2);
        is("isBefore(0, 1) at first", x.isBefore(0, 1), false);
        x.prefer(0, 1);
        is("isBefore(0, 1)", x.isBefore(0, 1), true);
        is("isBefore(1, 0)", x.isBefore(1, 0), false);
    }

    /** A chain through all six defaults, put together from its middle. */
    private static void chains() {
        int[] chain = {4, 2, 0, 5, 1, 3};
        DefaultReasoner x = plain(6);
        for (int link : new int[] {2, 0, 4, 1, 3}) {
            x.prefer(chain[link], chain[link + 1]);
        }
        for (int i = 0; i < 6; i++) {
            for (int j = 0; j < 6; j++) {
                is("isBefore(" + chain[i] + ", " + chain[j] + ")", x.isBefore(chain[i], chain[j]), i < j);
            }
        }
        DefaultReasoner y = plain(4);
        y.prefer(0, 1);
        y.prefer(2, 1);
        y.prefer(2, 3);
        is("no chain against a preference", y.isBefore(0, 2) || y.isBefore(0, 3), false);
    }

    private static void neverBeforeItself() {
        for (int length = 1; length <= 6; length++) {
            int end = length - 1;
            DefaultReasoner x = plain(6);
            for (int i = 0; i < end; i++) {
                x.prefer(i, i + 1);
            }
            throwsJust(x, "a ring of " + length, ARGUMENT, y -> y.prefer(end, 0));
            for (int i = 0; i < 6; i++) {
                is("isBefore(" + i + ", " + i + ")", x.isBefore(i, i), false);
            }
        }
    }

    private static void respectedOrders() {
        for (int n = 0; n <= 6; n++) {
            is("orders of " + n + " that respect nothing", respecting(plain(n)), ORDERS[n]);
            DefaultReasoner chain = plain(n);
            for (int i = 1; i < n; i++) {
                chain.prefer(i, i - 1);
            }
            is("orders of " + n + " that respect a chain", respecting(chain), 1);
            is("the last one respects a falling chain", chain.respects(ORDERS[n] - 1), true);
        }
        DefaultReasoner one = plain(6);
        one.prefer(5, 0);
        is("half of the orders", respecting(one), 360);
    }

    /** How many orders the object says respect its priorities; asked of twins, 500 a time. */
    private static int respecting(DefaultReasoner x) {
        int count = 0;
        DefaultReasoner part = x;
        for (int order = 0; order < ORDERS[x.defaultCount()]; order++) {
            part = order % 400 == 399 ? twinOf(x) : part;
            count += part.respects(order) ? 1 : 0;
        }
        return count;
    }

    /** Has the same number of plain defaults and the same priorities. */
    private static DefaultReasoner twinOf(DefaultReasoner x) {
        DefaultReasoner twin = plain(x.defaultCount());
        for (int a = 0; a < x.defaultCount(); a++) {
            for (int b = 0; b < x.defaultCount(); b++) {
                if (x.isBefore(a, b)) {
                    twin.prefer(a, b);
                }
            }
        }
        return twin;
    }

    // ---- walks

    private static void walkStartsWithClosure() {
        DefaultReasoner x = new DefaultReasoner();
        is("no facts", x.walk(0), 0);
        x.addRule(set(1), 2);
        x.setFact(1, true);
        is("facts with a rule", x.walk(0), set(1, 2));
        x.addDefault(set(2), 0, 3);
        is("a default that needs the rule's head", x.walk(0), set(1, 2, 3));
        x.setFact(9, true);
        is("facts that contradict", x.walk(0), ALL);
        is("appliedCount() then", x.appliedCount(), 0);
    }

    /** Each of the three conditions alone keeps a default from being applied. */
    private static void whatMayBeApplied() {
        is("a prerequisite that lacks one literal", applied(set(1, 2), 0, 3), 0);
        is("a prerequisite that is there", applied(set(1), 0, 3), 1);
        is("a justification that is spoken against", applied(set(1), set(4, 9), 3), 0);
        is("a justification that is not", applied(set(1), set(4, 10), 3), 1);
        is("a conclusion that is there", applied(set(1), 0, 1), 0);
        is("a conclusion that contradicts", applied(set(1), 0, 9), 1);
    }

    private static int applied(int prerequisite, int justifications, int conclusion) {
        DefaultReasoner x = new DefaultReasoner();
        x.setFact(1, true);
        x.addDefault(prerequisite, justifications, conclusion);
        x.walk(0);
        return x.appliedCount();
    }

    /** The first usable one is looked for from the start of the order each time. */
    private static void firstInTheOrder() {
        DefaultReasoner x = new DefaultReasoner();
        for (int i = 0; i < 5; i++) {
            x.addDefault(set(i + 1), 0, i);
        }
        x.addDefault(0, 0, 5);
        is("walk(0), against the chain", x.walk(0), 63);
        for (int i = 0; i < 6; i++) {
            is("applied(" + i + ")", x.applied(i), 5 - i);
        }
        DefaultReasoner y = plain(3);
        y.walk(3);
        is("applied of order 1 2 0", "" + y.applied(0) + y.applied(1) + y.applied(2), "120");
    }

    private static void closureOfEachStep() {
        DefaultReasoner x = new DefaultReasoner();
        x.addRule(set(0), 1);
        x.addRule(set(1), 10);
        x.addDefault(0, 0, 0);
        x.addDefault(0, set(2), 3);
        x.addDefault(set(10), 0, 4);
        is("a rule closes one default and starts another", x.walk(0), set(0, 1, 10, 4));
        is("walk(2), where the other one comes first", x.walk(2), set(0, 1, 10, 3, 4));
        x.addRule(set(4), 12);
        is("a contradiction in the last step", x.walk(0), ALL);
        is("appliedCount() up to it", x.appliedCount(), 2);
    }

    private static void walkEnds() {
        is("no default", new DefaultReasoner().walk(0), 0);
        DefaultReasoner x = hopeless();
        is("a default that closes itself is applied once", x.walk(0), set(8));
        is("appliedCount()", x.appliedCount(), 1);
        DefaultReasoner y = plain(6);
        is("all six are applied", y.walk(719), 63);
        is("appliedCount() of six", y.appliedCount(), 6);
    }

    private static void preferredByAWalk() {
        is("no extension", hopeless().preferredCount(), 0);
        is("the one walk without defaults", new DefaultReasoner().preferredCount(), 1);
        is("no order that counts ends with it", unpreferred().isPreferred(0), false);
        DefaultReasoner free = new DefaultReasoner();
        free.addDefault(0, set(0), 1);
        free.addDefault(0, 0, 8);
        is("only the last order ends with it", free.isPreferred(0), true);
    }

    /** Where the priorities leave one order only, its walk alone tells what is preferred. */
    private static void preferredByEachOrder() {
        for (int number = 0; number < 720; number++) {
            DefaultReasoner x = new DefaultReasoner();
            for (int atom = 0; atom < 3; atom++) {
                x.addDefault(0, set(atom), atom);
                x.addDefault(0, set(atom + 8), atom + 8);
            }
            int[] order = orderOf(number);
            for (int i = 0; i < 5; i++) {
                x.prefer(order[i], order[i + 1]);
            }
            is("extensionCount()", x.extensionCount(), 8);
            is("preferredCount() for order " + number, x.preferredCount(), 1);
            is("common(true) for order " + number, x.common(true), x.walk(number));
        }
    }

    // ---- orders

    /** The order of six defaults, told by a walk in which each can be applied at any time. */
    private static int[] orderOf(int number) {
        DefaultReasoner x = plain(6);
        x.walk(number);
        int[] order = new int[6];
        for (int i = 0; i < 6; i++) {
            order[i] = x.applied(i);
        }
        return order;
    }

    private static String walked(DefaultReasoner x, int number) {
        x.walk(number);
        StringBuilder text = new StringBuilder();
        for (int i = 0; i < x.appliedCount(); i++) {
            text.append(x.applied(i));
        }
        return text.toString();
    }

    private static void firstAndLastOrder() {
        String rising = "012345";
        String falling = "543210";
        for (int n = 0; n <= 6; n++) {
            int beyond = ORDERS[n];
            DefaultReasoner x = plain(n);
            is("the first order of " + n, walked(x, 0), rising.substring(0, n));
            is("the last order of " + n, walked(x, beyond - 1), falling.substring(6 - n));
            throwsJust(x, "an order beyond those of " + n, ARGUMENT, y -> y.walk(beyond));
            throwsJust(x, "an order below 0 of " + n, ARGUMENT, y -> y.walk(-1));
        }
    }

    private static void smallerNumberDecides() {
        String[] three = {"012", "021", "102", "120", "201", "210"};
        for (int i = 0; i < 6; i++) {
            is("order " + i + " of three", walked(plain(3), i), three[i]);
        }
        String last = "";
        for (int number = 0; number < 720; number++) {
            String order = walked(plain(6), number);
            is("order " + number + " comes behind " + last, order.compareTo(last) > 0, true);
            last = order;
        }
    }

    // ---- exceptions

    private interface Refusal {
        void of(String what, Class<?> want, Act act);
    }

    /** All calls that are refused whatever the object holds. */
    private static void refusedAlways(Refusal refusal) {
        for (int bad : new int[] {-1, 16, Integer.MIN_VALUE, Integer.MAX_VALUE}) {
            refusal.of("setFact(" + bad + ", true)", INDEX, x -> x.setFact(bad, true));
            refusal.of("setFact(" + bad + ", false)", INDEX, x -> x.setFact(bad, false));
            refusal.of("addRule(64, " + bad + ")", INDEX, x -> x.addRule(64, bad));
            refusal.of("addDefault(64, 64, " + bad + ")", INDEX, x -> x.addDefault(64, 64, bad));
            refusal.of("supports(" + bad + ")", INDEX, x -> x.supports(bad));
            refusal.of("share(" + bad + ")", INDEX, x -> x.share(bad));
            refusal.of("prefer(0, " + bad + ")", INDEX, x -> x.prefer(0, bad));
            refusal.of("prefer(" + bad + ", 0)", INDEX, x -> x.prefer(bad, 0));
            refusal.of("isBefore(0, " + bad + ")", INDEX, x -> x.isBefore(0, bad));
            refusal.of("isBefore(" + bad + ", 0)", INDEX, x -> x.isBefore(bad, 0));
            refusal.of("isOpen(" + bad + ", 0)", INDEX, x -> x.isOpen(bad, 0));
            refusal.of("extension(" + bad + ")", INDEX, x -> x.extension(bad));
            refusal.of("isPreferred(" + bad + ")", INDEX, x -> x.isPreferred(bad));
            refusal.of("applied(" + bad + ")", INDEX, x -> x.applied(bad));
        }
        for (int bad : new int[] {-1, 65536, Integer.MIN_VALUE, Integer.MAX_VALUE}) {
            refusal.of("addRule(" + bad + ", 7)", ARGUMENT, x -> x.addRule(bad, 7));
            refusal.of("addDefault(" + bad + ", 64, 7)", ARGUMENT, x -> x.addDefault(bad, 64, 7));
            refusal.of("addDefault(64, " + bad + ", 7)", ARGUMENT, x -> x.addDefault(64, bad, 7));
            refusal.of("closure(" + bad + ")", ARGUMENT, x -> x.closure(bad));
            refusal.of("generatorsOf(" + bad + ")", ARGUMENT, x -> x.generatorsOf(bad));
            refusal.of("isExtension(" + bad + ")", ARGUMENT, x -> x.isExtension(bad));
            refusal.of("walk(" + bad + ")", ARGUMENT, x -> x.walk(bad));
            refusal.of("respects(" + bad + ")", ARGUMENT, x -> x.respects(bad));
        }
    }

    private static void changesNothing() {
        Maker[] makers = {DefaultReasoner::new, Checks::hopeless, Checks::unpreferred, Checks::busy, Checks::full};
        for (Maker maker : makers) {
            refusedAlways((what, want, act) -> refusedAsNew(maker, what, want, act));
        }
        Maker empty = DefaultReasoner::new;
        refusedAsNew(empty, "dropRule()", STATE, DefaultReasoner::dropRule);
        refusedAsNew(empty, "dropDefault()", STATE, DefaultReasoner::dropDefault);
        refusedAsNew(empty, "walk(1)", ARGUMENT, x -> x.walk(1));
        refusedAsNew(Checks::full, "addRule(64, 7)", STATE, x -> x.addRule(64, 7));
        refusedAsNew(Checks::full, "addDefault(64, 64, 7)", STATE, x -> x.addDefault(64, 64, 7));
        refusedAsNew(Checks::full, "prefer(6, 0)", INDEX, x -> x.prefer(6, 0));
        refusedAsNew(Checks::full, "walk(720)", ARGUMENT, x -> x.walk(720));
        refusedAsNew(Checks::full, "respects(720)", ARGUMENT, x -> x.respects(720));
        refusedAsNew(Checks::full, "isOpen(0, 65536)", ARGUMENT, x -> x.isOpen(0, 65536));
        refusedAsNew(Checks::busy, "prefer(0, 1), a ring of two", ARGUMENT, x -> x.prefer(0, 1));
        refusedAsNew(Checks::busy, "prefer(3, 1), a ring of three", ARGUMENT, x -> x.prefer(3, 1));
        refusedAsNew(Checks::busy, "prefer(2, 2)", ARGUMENT, x -> x.prefer(2, 2));
    }

    /** Each set of exceptions that can apply at once, and the one that the signature names first. */
    private static void theFirstNamed() {
        for (int apply = 1; apply < 8; apply++) {
            int head = (apply & 1) != 0 ? 16 : 15;
            int body = (apply & 2) != 0 ? 65536 : ALL;
            DefaultReasoner x = (apply & 4) != 0 ? full() : busy();
            Class<?> due = head == 16 ? INDEX : body == 65536 ? ARGUMENT : STATE;
            throwsJust(x, "addRule(" + body + ", " + head + ")", due, y -> y.addRule(body, head));
        }
        for (int apply = 1; apply < 16; apply++) {
            int conclusion = (apply & 1) != 0 ? -1 : 0;
            int prerequisite = (apply & 2) != 0 ? -1 : 0;
            int justifications = (apply & 4) != 0 ? 65536 : ALL;
            DefaultReasoner x = (apply & 8) != 0 ? full() : busy();
            Class<?> due = conclusion < 0 ? INDEX : (apply & 6) != 0 ? ARGUMENT : STATE;
            throwsJust(x, "addDefault(" + prerequisite + ", " + justifications + ", " + conclusion + ")",
                    due, y -> y.addDefault(prerequisite, justifications, conclusion));
        }
        throwsJust(busy(), "prefer(4, 4)", INDEX, x -> x.prefer(4, 4));
        throwsJust(busy(), "prefer(-1, -1)", INDEX, x -> x.prefer(-1, -1));
        throwsJust(busy(), "isOpen(4, 65536)", INDEX, x -> x.isOpen(4, 65536));
        throwsJust(busy(), "isOpen(-1, -1)", INDEX, x -> x.isOpen(-1, -1));
        throwsJust(busy(), "isOpen(3, 65536)", ARGUMENT, x -> x.isOpen(3, 65536));
    }

    public static void main(String[] args) throws Exception {
        promise(0);
        sentence("An object is used for at most 512 calls after it has been made",
                DescriptionEdgesTest::the512thCall);
        sentence("at most 512 calls", DescriptionEdgesTest::callsOfOneKind);
        sentence("There are 8 atoms, 0 to 7, and 16 literals", DescriptionEdgesTest::sixteenLiterals);
        sentence("the literal k + 8 says that it is false.", DescriptionEdgesTest::complements);
        sentence("These two are the complements of each other.", DescriptionEdgesTest::complementsOfEachOther);
        sentence("Sets of literals are told as the sum of the powers 2^l of their literals l.",
                DescriptionEdgesTest::setsAsSums);
        sentence("There are facts, a set of literals (empty at first)", DescriptionEdgesTest::factsEmptyAtFirst);
        sentence("at most 16 strict rules, numbered from 0", DescriptionEdgesTest::sixteenRules);
        sentence("a body (a set of literals, perhaps empty)", DescriptionEdgesTest::emptyBody);
        sentence("a body (a set of literals", DescriptionEdgesTest::fullBody);
        sentence("at most 6 defaults, numbered from 0", DescriptionEdgesTest::sixDefaults);
        sentence("each with a prerequisite (a set), justifications (a set) and a conclusion (a literal).",
                DescriptionEdgesTest::emptyAndFullPartsOfDefaults);
        sentence("The closure of a set S is the smallest set that contains S",
                DescriptionEdgesTest::smallestClosure);
        sentence("with the body of a strict rule, also its head", DescriptionEdgesTest::longestChainOfRules);
        sentence("if that contains a literal and its complement, the closure is the set of all literals.",
                DescriptionEdgesTest::contradictions);
        sentence("A default is open for a set E if E contains no complement of one of its justifications.",
                DescriptionEdgesTest::openDefaults);
        sentence("let G be the smallest set of defaults that contains each default that is open for E",
                DescriptionEdgesTest::smallestGenerators);
        sentence("E is an extension if it is the closure of the facts and the conclusions",
                DescriptionEdgesTest::isTheClosure);
        sentence("Extensions are numbered from 0, in ascending order of the numbers that tell them.",
                DescriptionEdgesTest::ascending);
        sentence("A default can be preferred to another one.", DescriptionEdgesTest::preferredToAnother);
        sentence("It comes before another one if there is a chain of preferences", DescriptionEdgesTest::chains);
        sentence("no default ever comes before itself.", DescriptionEdgesTest::neverBeforeItself);
        sentence("An order of all defaults respects the priorities if each default that comes before",
                DescriptionEdgesTest::respectedOrders);
        sentence("at first, the set S is the closure of the facts.", DescriptionEdgesTest::walkStartsWithClosure);
        sentence("As long as there is a default whose prerequisite is contained in S, that is open for S, "
                + "and whose conclusion is not in S", DescriptionEdgesTest::whatMayBeApplied);
        sentence("the first one of these in the order is applied", DescriptionEdgesTest::firstInTheOrder);
        sentence("S becomes the closure of S with its conclusion.", DescriptionEdgesTest::closureOfEachStep);
        sentence("The walk ends with S when there is none.", DescriptionEdgesTest::walkEnds);
        sentence("An extension is preferred if a walk through some order", DescriptionEdgesTest::preferredByAWalk);
        sentence("that respects the priorities ends with it.", DescriptionEdgesTest::preferredByEachOrder);
        sentence("Orders are numbered from 0: all orders of the defaults", DescriptionEdgesTest::firstAndLastOrder);
        sentence("at the first place where two of them differ, the smaller number decides",
                DescriptionEdgesTest::smallerNumberDecides);
        sentence("A method that throws an exception changes nothing.", DescriptionEdgesTest::changesNothing);
        sentence("If several exceptions apply, the one that is named first is thrown.",
                DescriptionEdgesTest::theFirstNamed);
        allSentencesAreTested(0, 0);
        end();
    }
}
