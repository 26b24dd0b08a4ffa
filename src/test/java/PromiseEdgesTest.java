import java.math.BigInteger;

/** The sentences of promises 1 to 27, each with a test of its own at its edges. */
public final class PromiseEdgesTest extends Sentences {
    private static final int[] ORDERS = {1, 1, 2, 6, 24, 120, 720};
    private static final int LOWEST = Integer.MIN_VALUE;
    private static final int HIGHEST = Integer.MAX_VALUE;

    /** A call that takes one number. */
    private interface Ask {
        Object of(DefaultReasoner x, int number);
    }

    /** The lowest and the highest number are taken; those just outside, and far outside, are refused. */
    private static void range(Maker maker, String what, Class<?> want, int low, int high, Ask ask) {
        for (int inside : new int[] {low, high}) {
            is(what + inside + ") throws", answer(maker.make(), x -> ask.of(x, inside)).startsWith("throws"), false);
        }
        refusedOutside(maker, what, want, low, high, ask);
    }

    private static void refusedOutside(Maker maker, String what, Class<?> want, int low, int high, Ask ask) {
        for (int outside : new int[] {low - 1, high + 1, LOWEST, HIGHEST}) {
            refusedAsNew(maker, what + outside + ")", want, x -> ask.of(x, outside));
        }
    }

    /** For 0 to 6 defaults: just their numbers are taken. */
    private static void rangeOfDefaults(String what, Ask ask) {
        for (int n = 0; n <= 6; n++) {
            int count = n;
            Maker maker = () -> plain(count);
            if (n > 0) {
                range(maker, what, INDEX, 0, n - 1, ask);
            } else {
                refusedAsNew(maker, what + "0) without defaults", INDEX, x -> ask.of(x, 0));
                refusedAsNew(maker, what + "-1) without defaults", INDEX, x -> ask.of(x, -1));
            }
        }
    }

    /** For 0 to 6 defaults: just the numbers of their orders are taken. */
    private static void rangeOfOrders(String what, Ask ask) {
        for (int n = 0; n <= 6; n++) {
            int count = n;
            range(() -> plain(count), what, ARGUMENT, 0, ORDERS[n] - 1, ask);
        }
        range(Checks::full, what, ARGUMENT, 0, 719, ask);
    }

    /** With no, one, two, four and eight extensions: just their numbers are taken. */
    private static void rangeOfExtensions(String what, Ask ask) {
        refusedAsNew(Checks::hopeless, what + "0) of none", INDEX, x -> ask.of(x, 0));
        refusedAsNew(Checks::hopeless, what + "-1) of none", INDEX, x -> ask.of(x, -1));
        range(DefaultReasoner::new, what, INDEX, 0, 0, ask);
        range(Checks::unpreferred, what, INDEX, 0, 0, ask);
        range(Checks::tweety, what, INDEX, 0, 1, ask);
        range(Checks::busy, what, INDEX, 0, 3, ask);
        range(Checks::full, what, INDEX, 0, 7, ask);
    }

    /** Three atoms, each of which one default affirms and one denies: eight extensions. */
    private static DefaultReasoner choices() {
        DefaultReasoner x = new DefaultReasoner();
        for (int atom = 0; atom < 3; atom++) {
            x.addDefault(0, set(atom), atom);
            x.addDefault(0, set(atom + 8), atom + 8);
        }
        return x;
    }

    /** Two groups of three defaults, of which each closes the two others: nine extensions. */
    private static DefaultReasoner groups() {
        DefaultReasoner x = new DefaultReasoner();
        for (int i = 0; i < 6; i++) {
            int start = i / 3 * 3;
            int others = set(start, start + 1, start + 2) & ~set(i);
            x.addDefault(0, others << 8, i);
        }
        return x;
    }

    // ---- promise 1

    private static void emptyTheory() {
        DefaultReasoner x = new DefaultReasoner();
        is("facts()", x.facts(), 0);
        is("defaultCount()", x.defaultCount(), 0);
        is("forgetPriorities()", x.forgetPriorities(), 0);
        is("appliedCount()", x.appliedCount(), 0);
        is("digest()", x.digest(), digestOf(0, 0, 0, 0));
        throwsJust(x, "dropRule()", STATE, DefaultReasoner::dropRule);
        throwsJust(x, "dropDefault()", STATE, DefaultReasoner::dropDefault);
        is("extensionCount()", x.extensionCount(), 1);
        is("extension(0)", x.extension(0), 0);
        is("isPreferred(0)", x.isPreferred(0), true);
        is("walk(0)", x.walk(0), 0);
    }

    /** Whatever is asked first, the object has found nothing out that it could wrongly go by. */
    private static void askedFirst() {
        is("isPreferred(0)", new DefaultReasoner().isPreferred(0), true);
        is("preferredCount()", new DefaultReasoner().preferredCount(), 1);
        is("extensionCount()", new DefaultReasoner().extensionCount(), 1);
        is("extension(0)", new DefaultReasoner().extension(0), 0);
        is("isExtension(0)", new DefaultReasoner().isExtension(0), true);
        is("generatorsOf(0)", new DefaultReasoner().generatorsOf(0), 0);
        is("supports(0)", new DefaultReasoner().supports(0), 0);
        is("common(true)", new DefaultReasoner().common(true), 0);
        is("share(0)", new DefaultReasoner().share(0), 0.0);
        is("walk(0)", new DefaultReasoner().walk(0), 0);
        is("respects(0)", new DefaultReasoner().respects(0), true);
    }

    private static void emptyBesideAnother() {
        full();
        is("digest() of an object made later", new DefaultReasoner().digest(), digestOf(0, 0, 0, 0));
        DefaultReasoner early = new DefaultReasoner();
        full().preferredCount();
        is("digest() of an object made earlier", early.digest(), digestOf(0, 0, 0, 0));
        is("extension(0) of it", early.extension(0), 0);
    }

    // ---- promise 2

    private static void makesFact() {
        for (int literal = 0; literal < 16; literal++) {
            DefaultReasoner x = new DefaultReasoner();
            x.setFact(literal, true);
            is("facts() with " + literal, x.facts(), 1 << literal);
            x.setFact(literal, true);
            is("facts() with it twice", x.facts(), 1 << literal);
            x.setFact(literal, false);
            is("facts() without it", x.facts(), 0);
            x.setFact(literal, false);
            is("facts() without it twice", x.facts(), 0);
        }
    }

    private static void makesFactOfFull() {
        for (int literal = 0; literal < 16; literal++) {
            DefaultReasoner x = new DefaultReasoner();
            for (int other = 0; other < 16; other++) {
                x.setFact(other, true);
            }
            x.setFact(literal, false);
            is("facts() without " + literal, x.facts(), ALL - (1 << literal));
        }
    }

    private static void wasFactBefore() {
        for (int literal : new int[] {0, 7, 8, 15}) {
            DefaultReasoner x = new DefaultReasoner();
            is("no fact, stays none", x.setFact(literal, false), false);
            is("no fact, becomes one", x.setFact(literal, true), false);
            is("its complement", x.setFact((literal + 8) % 16, false), false);
            is("a fact, stays one", x.setFact(literal, true), true);
            is("a fact, ends", x.setFact(literal, false), true);
            is("it has ended", x.setFact(literal, false), false);
        }
        DefaultReasoner y = new DefaultReasoner();
        y.addRule(0, 3);
        is("a literal that only follows", y.setFact(3, true), false);
    }

    private static void setFactRange() {
        range(Checks::busy, "setFact(true, ", INDEX, 0, 15, (x, l) -> x.setFact(l, true));
        range(Checks::busy, "setFact(false, ", INDEX, 0, 15, (x, l) -> x.setFact(l, false));
        refusedAsNew(Checks::busy, "setFact(32, true)", INDEX, x -> x.setFact(32, true));
        refusedAsNew(Checks::busy, "setFact(34, false)", INDEX, x -> x.setFact(34, false));
    }

    // ---- promise 3

    private static void addsRule() {
        DefaultReasoner x = new DefaultReasoner();
        x.setFact(0, true);
        is("extension(0)", x.extension(0), set(0));
        x.addRule(set(0), 15);
        is("extension(0) after a rule", x.extension(0), set(0, 15));
        x.setFact(0, false);
        is("closure(1)", x.closure(1), set(0, 15));
        x.addRule(set(15), 7);
        is("closure(1) of a rule and its complement's", x.closure(1), ALL);
        is("digest()", x.digest(), digestOf(0, 2, 1, 15, 32768, 7, 0, 0));
        x.addRule(set(0), 15);
        is("digest() with a rule twice", x.digest(), digestOf(0, 3, 1, 15, 32768, 7, 1, 15, 0, 0));
    }

    private static void ruleNumbers() {
        DefaultReasoner x = new DefaultReasoner();
        for (int i = 0; i < 16; i++) {
            is("number", x.addRule(0, 0), i);
        }
        for (int left = 15; left >= 0; left--) {
            x.dropRule();
            is("number after a drop", x.addRule(0, 1), left);
            x.dropRule();
        }
    }

    private static void headRange() {
        range(Checks::busy, "addRule(0, ", INDEX, 0, 15, (x, l) -> x.addRule(0, l));
        refusedOutside(Checks::full, "addRule(0, ", INDEX, 0, 15, (x, l) -> x.addRule(0, l));
        refusedOutside(Checks::busy, "addRule(-1, ", INDEX, 0, 15, (x, l) -> x.addRule(-1, l));
        refusedOutside(Checks::full, "addRule(65536, ", INDEX, 0, 15, (x, l) -> x.addRule(65536, l));
    }

    private static void bodyRange() {
        range(Checks::busy, "addRule(.., 15: ", ARGUMENT, 0, ALL, (x, s) -> x.addRule(s, 15));
        refusedOutside(Checks::full, "addRule(.., 0: ", ARGUMENT, 0, ALL, (x, s) -> x.addRule(s, 0));
    }

    private static void noSeventeenthRule() {
        DefaultReasoner x = new DefaultReasoner();
        for (int i = 0; i < 15; i++) {
            x.addRule(0, 0);
        }
        is("the 16th", x.addRule(ALL, 15), 15);
        throwsJust(x, "the 17th", STATE, y -> y.addRule(ALL, 15));
        refusedAsNew(Checks::full, "addRule(0, 0)", STATE, y -> y.addRule(0, 0));
        refusedAsNew(Checks::full, "addRule(65535, 15)", STATE, y -> y.addRule(ALL, 15));
    }

    // ---- promise 4

    private static void addsDefault() {
        DefaultReasoner x = new DefaultReasoner();
        x.addDefault(set(15), set(0), 6);
        is("digest()", x.digest(), digestOf(0, 0, 1, 32768, 1, 6, 0, 0));
        is("extension(0) without its prerequisite", x.extension(0), 0);
        x.setFact(15, true);
        is("extension(0) with its prerequisite", x.extension(0), set(6, 15));
        x.setFact(8, true);
        is("extension(0) with what closes it", x.extension(0), set(8, 15));
        DefaultReasoner y = new DefaultReasoner();
        y.addDefault(0, 0, 15);
        is("extension(0)", y.extension(0), set(15));
        y.addDefault(set(15), set(15), 0);
        is("extension(0) after another one", y.extension(0), set(0, 15));
        y.addDefault(0, 0, 15);
        is("defaultCount() with a default twice", y.defaultCount(), 3);
        is("isBefore of the new one", y.isBefore(2, 0) || y.isBefore(0, 2), false);
    }

    private static void defaultNumbers() {
        DefaultReasoner x = new DefaultReasoner();
        for (int i = 0; i < 6; i++) {
            is("number", x.addDefault(0, 0, 0), i);
        }
        for (int left = 5; left >= 0; left--) {
            x.dropDefault();
            is("number after a drop", x.addDefault(0, 0, 1), left);
            x.dropDefault();
        }
    }

    private static void conclusionRange() {
        range(Checks::busy, "addDefault(0, 0, ", INDEX, 0, 15, (x, l) -> x.addDefault(0, 0, l));
        refusedOutside(Checks::full, "addDefault(0, 0, ", INDEX, 0, 15, (x, l) -> x.addDefault(0, 0, l));
        refusedOutside(Checks::busy, "addDefault(-1, 0, ", INDEX, 0, 15, (x, l) -> x.addDefault(-1, 0, l));
        refusedOutside(Checks::busy, "addDefault(0, -1, ", INDEX, 0, 15, (x, l) -> x.addDefault(0, -1, l));
        refusedOutside(Checks::full, "addDefault(-1, -1, ", INDEX, 0, 15, (x, l) -> x.addDefault(-1, -1, l));
    }

    private static void partRange() {
        range(Checks::busy, "addDefault of prerequisite (", ARGUMENT, 0, ALL, (x, s) -> x.addDefault(s, 0, 0));
        range(Checks::busy, "addDefault of justifications (", ARGUMENT, 0, ALL, (x, s) -> x.addDefault(0, s, 15));
        refusedOutside(Checks::busy, "addDefault of both (", ARGUMENT, 0, ALL, (x, s) -> x.addDefault(s, s, 0));
        refusedOutside(Checks::full, "a 7th of prerequisite (", ARGUMENT, 0, ALL, (x, s) -> x.addDefault(s, 0, 0));
        refusedOutside(Checks::full, "a 7th of justifications (", ARGUMENT, 0, ALL, (x, s) -> x.addDefault(0, s, 0));
    }

    private static void noSeventhDefault() {
        DefaultReasoner x = plain(5);
        is("the 6th", x.addDefault(ALL, ALL, 15), 5);
        throwsJust(x, "the 7th", STATE, y -> y.addDefault(ALL, ALL, 15));
        refusedAsNew(Checks::full, "addDefault(0, 0, 0)", STATE, y -> y.addDefault(0, 0, 0));
        refusedAsNew(Checks::full, "addDefault(65535, 65535, 15)", STATE, y -> y.addDefault(ALL, ALL, 15));
    }

    // ---- promise 5

    private static void lastRuleGoes() {
        DefaultReasoner x = new DefaultReasoner();
        for (int i = 0; i < 16; i++) {
            x.addRule(set(i), (i + 8) % 16);
        }
        for (int left = 15; left >= 0; left--) {
            x.dropRule();
            for (int i = 0; i < 16; i++) {
                is("closure of " + i + " with " + left + " rules", x.closure(set(i)), i < left ? ALL : set(i));
            }
        }
        is("digest()", x.digest(), digestOf(0, 0, 0, 0));
        DefaultReasoner y = new DefaultReasoner();
        y.addRule(0, 1);
        y.addRule(set(1), 2);
        is("extension(0)", y.extension(0), set(1, 2));
        y.dropRule();
        is("extension(0) without the last", y.extension(0), set(1));
        is("walk(0) without the last", y.walk(0), set(1));
    }

    private static void rulesLeft() {
        DefaultReasoner x = full();
        for (int left = 15; left >= 0; left--) {
            is("dropRule()", x.dropRule(), left);
        }
    }

    private static void noRuleLeft() {
        DefaultReasoner x = new DefaultReasoner();
        x.addRule(0, 0);
        is("the last one", x.dropRule(), 0);
        throwsJust(x, "one more", STATE, DefaultReasoner::dropRule);
        refusedAsNew(DefaultReasoner::new, "dropRule()", STATE, DefaultReasoner::dropRule);
        refusedAsNew(Checks::hopeless, "dropRule() with a default", STATE, DefaultReasoner::dropRule);
        refusedAsNew(() -> plain(6), "dropRule() with six defaults", STATE, DefaultReasoner::dropRule);
        throwsJust(x, "one more again", STATE, DefaultReasoner::dropRule);
        is("addRule after refused drops", x.addRule(0, 3), 0);
        is("closure(0)", x.closure(0), set(3));
    }

    // ---- promise 6

    private static void lastDefaultGoes() {
        DefaultReasoner x = plain(6);
        for (int left = 5; left >= 0; left--) {
            x.dropDefault();
            is("extension(0) with " + left, x.extension(0), (1 << left) - 1);
            int dropped = left;
            throwsJust(x, "isOpen of the one dropped", INDEX, y -> y.isOpen(dropped, 0));
        }
    }

    /** The last default has preferences from all others and, in turn, to all others. */
    private static void preferencesGo() {
        DefaultReasoner x = plain(6);
        DefaultReasoner y = plain(6);
        for (int i = 0; i < 5; i++) {
            x.prefer(i, 5);
            y.prefer(5, i);
        }
        x.dropDefault();
        y.dropDefault();
        is("pairs from the others", x.forgetPriorities(), 0);
        is("pairs to the others", y.forgetPriorities(), 0);
        for (DefaultReasoner z : new DefaultReasoner[] {x, y}) {
            z.addDefault(0, 0, 5);
            for (int i = 0; i < 5; i++) {
                is("the new default and " + i, z.isBefore(i, 5) || z.isBefore(5, i), false);
            }
        }
    }

    private static void otherPreferencesStay() {
        DefaultReasoner x = plain(6);
        x.prefer(0, 5);
        x.prefer(5, 1);
        x.prefer(2, 3);
        x.prefer(3, 4);
        x.prefer(0, 4);
        x.dropDefault();
        is("a chain through the dropped one", x.isBefore(0, 1), false);
        is("a chain beside it", x.isBefore(2, 4), true);
        is("a preference beside it", x.isBefore(0, 4), true);
        is("pairs left", x.forgetPriorities(), 4);
        DefaultReasoner y = busy();
        y.prefer(3, 2);
        y.dropDefault();
        is("pairs left of a chain that is cut", y.forgetPriorities(), 1);
    }

    private static void defaultsLeft() {
        DefaultReasoner x = full();
        for (int left = 5; left >= 0; left--) {
            is("dropDefault()", x.dropDefault(), left);
            is("defaultCount()", x.defaultCount(), left);
        }
    }

    private static void noDefaultLeft() {
        DefaultReasoner x = plain(1);
        is("the last one", x.dropDefault(), 0);
        throwsJust(x, "one more", STATE, DefaultReasoner::dropDefault);
        refusedAsNew(DefaultReasoner::new, "dropDefault()", STATE, DefaultReasoner::dropDefault);
        Maker rules = () -> {
            DefaultReasoner y = new DefaultReasoner();
            y.addRule(0, 1);
            y.addRule(set(1), 2);
            return y;
        };
        refusedAsNew(rules, "dropDefault() with rules", STATE, DefaultReasoner::dropDefault);
        Maker dropped = () -> {
            DefaultReasoner y = full();
            for (int i = 0; i < 6; i++) {
                y.dropDefault();
            }
            return y;
        };
        refusedAsNew(dropped, "dropDefault() after six drops", STATE, DefaultReasoner::dropDefault);
        is("addDefault after a refused drop", x.addDefault(0, 0, 3), 0);
    }

    // ---- promise 7

    private static void prefers() {
        for (int a = 0; a < 6; a++) {
            for (int b = 0; b < 6; b++) {
                if (a != b) {
                    DefaultReasoner x = plain(6);
                    x.prefer(a, b);
                    is("isBefore(" + a + ", " + b + ")", x.isBefore(a, b), true);
                    is("pairs", x.forgetPriorities(), 1);
                }
            }
        }
        DefaultReasoner y = tweety();
        is("preferredCount() before", y.preferredCount(), 2);
        y.prefer(1, 0);
        is("preferredCount() after", y.preferredCount(), 1);
        is("common(true) after", y.common(true), set(0, 2, 9));
    }

    private static void cameBeforeAlready() {
        DefaultReasoner x = plain(6);
        for (int i = 0; i < 5; i++) {
            is("a new preference", x.prefer(i, i + 1), false);
            is("the same again", x.prefer(i, i + 1), true);
        }
        is("what a chain of two says", x.prefer(0, 2), true);
        is("what the longest chain says", x.prefer(0, 5), true);
        x.forgetPriorities();
        is("a forgotten one", x.prefer(0, 5), false);
        is("another one of the same default", x.prefer(0, 4), false);
    }

    private static void preferRange() {
        for (int n = 2; n <= 6; n++) {
            int count = n;
            Maker maker = () -> plain(count);
            range(maker, "prefer(to another: ", INDEX, 0, n - 1, (x, d) -> x.prefer(d, d == 0 ? 1 : 0));
            range(maker, "prefer(another to: ", INDEX, 0, n - 1, (x, d) -> x.prefer(d == 0 ? 1 : 0, d));
        }
        refusedAsNew(DefaultReasoner::new, "prefer(0, 0) without defaults", INDEX, x -> x.prefer(0, 0));
        refusedAsNew(() -> plain(1), "prefer(0, 1) with one default", INDEX, x -> x.prefer(0, 1));
        refusedAsNew(() -> plain(1), "prefer(1, 0) with one default", INDEX, x -> x.prefer(1, 0));
        for (int bad : new int[] {-1, 4, LOWEST, HIGHEST}) {
            refusedAsNew(Checks::busy, "prefer of the same twice", INDEX, x -> x.prefer(bad, bad));
            refusedAsNew(Checks::busy, "prefer(0, " + bad + ")", INDEX, x -> x.prefer(0, bad));
            refusedAsNew(Checks::busy, "prefer(" + bad + ", 0)", INDEX, x -> x.prefer(bad, 0));
        }
    }

    private static void preferRefused() {
        for (int d = 0; d < 4; d++) {
            int same = d;
            refusedAsNew(Checks::busy, "prefer(" + d + ", " + d + ")", ARGUMENT, x -> x.prefer(same, same));
        }
        refusedAsNew(() -> plain(1), "prefer(0, 0)", ARGUMENT, x -> x.prefer(0, 0));
        refusedAsNew(Checks::busy, "against a preference", ARGUMENT, x -> x.prefer(0, 1));
        refusedAsNew(Checks::busy, "against a chain", ARGUMENT, x -> x.prefer(3, 1));
        Maker longest = () -> {
            DefaultReasoner x = plain(6);
            for (int i = 5; i > 0; i--) {
                x.prefer(i, i - 1);
            }
            return x;
        };
        for (int a = 0; a < 6; a++) {
            for (int b = a; b < 6; b++) {
                int low = a;
                int high = b;
                refusedAsNew(longest, "prefer(" + a + ", " + b + ") against the longest chain", ARGUMENT,
                        x -> x.prefer(low, high));
            }
        }
    }

    /** What stands beside a chain, not in it, may still be preferred either way. */
    private static void preferTaken() {
        is("the last to one beside", busy().prefer(3, 2), false);
        is("one beside to the first", busy().prefer(2, 1), false);
        DefaultReasoner x = plain(3);
        x.prefer(0, 1);
        x.prefer(0, 2);
        is("two that come behind the same", x.prefer(2, 1), false);
        x.forgetPriorities();
        is("against a forgotten preference", x.prefer(1, 0), false);
        x.dropDefault();
        x.dropDefault();
        x.addDefault(0, 0, 1);
        is("against a dropped preference", x.prefer(0, 1), false);
    }

    // ---- promise 8

    private static void forgets() {
        DefaultReasoner x = full();
        x.forgetPriorities();
        for (int a = 0; a < 6; a++) {
            for (int b = 0; b < 6; b++) {
                is("isBefore(" + a + ", " + b + ")", x.isBefore(a, b), false);
            }
        }
        is("preferredCount()", x.preferredCount(), 8);
        is("defaultCount() stays", x.defaultCount(), 6);
        is("respects(719)", x.respects(719), true);
        DefaultReasoner y = plain(3);
        y.prefer(0, 1);
        y.forgetPriorities();
        y.prefer(1, 2);
        is("a forgotten link makes no chain", y.isBefore(0, 2), false);
    }

    private static void pairsThereWere() {
        is("no default", new DefaultReasoner().forgetPriorities(), 0);
        is("no preference", plain(6).forgetPriorities(), 0);
        for (int length = 2; length <= 6; length++) {
            DefaultReasoner x = plain(6);
            for (int i = 1; i < length; i++) {
                x.prefer(i - 1, i);
                x.prefer(i - 1, i);
            }
            is("a chain of " + length, x.forgetPriorities(), length * (length - 1) / 2);
            is("none are left", x.forgetPriorities(), 0);
        }
        DefaultReasoner y = plain(6);
        for (int a = 0; a < 3; a++) {
            for (int b = 3; b < 6; b++) {
                y.prefer(a, b);
            }
        }
        is("three before three", y.forgetPriorities(), 9);
    }

    // ---- promise 9

    private static void comesBefore() {
        DefaultReasoner x = full();
        int[][] due = {{1, 0}, {0, 3}, {1, 3}, {5, 4}, {3, 5}, {0, 5}, {0, 4}, {1, 5}, {1, 4}, {3, 4}};
        boolean[][] before = new boolean[6][6];
        for (int[] pair : due) {
            before[pair[0]][pair[1]] = true;
        }
        for (int a = 0; a < 6; a++) {
            for (int b = 0; b < 6; b++) {
                is("isBefore(" + a + ", " + b + ")", x.isBefore(a, b), before[a][b]);
            }
        }
        is("one default and itself", plain(1).isBefore(0, 0), false);
    }

    private static void isBeforeRange() {
        rangeOfDefaults("isBefore(.., 0: ", (x, d) -> x.isBefore(d, 0));
        rangeOfDefaults("isBefore(0, ", (x, d) -> x.isBefore(0, d));
        rangeOfDefaults("isBefore(same: ", (x, d) -> x.isBefore(d, d));
        refusedOutside(Checks::busy, "isBefore(3, ", INDEX, 0, 3, (x, d) -> x.isBefore(3, d));
    }

    // ---- promises 10 and 11

    private static void tellsFacts() {
        DefaultReasoner x = new DefaultReasoner();
        is("none", x.facts(), 0);
        x.addRule(0, 1);
        x.addDefault(0, 0, 2);
        x.walk(0);
        is("none, though some follow", x.facts(), 0);
        for (int literal = 0; literal < 16; literal++) {
            x.setFact(literal, true);
        }
        is("all", x.facts(), 65535);
        x.setFact(0, false);
        is("all but 0, though the closure is all", x.facts(), 65534);
        DefaultReasoner y = new DefaultReasoner();
        y.setFact(3, true);
        y.setFact(11, true);
        is("two that contradict", y.facts(), set(3, 11));
    }

    private static void countsDefaults() {
        DefaultReasoner x = new DefaultReasoner();
        is("none", x.defaultCount(), 0);
        for (int i = 1; i <= 6; i++) {
            x.addDefault(0, 0, 0);
            is("so many", x.defaultCount(), i);
        }
        answer(x, y -> y.addDefault(0, 0, 0));
        is("six after a 7th is refused", x.defaultCount(), 6);
        for (int i = 5; i >= 0; i--) {
            x.dropDefault();
            is("so many left", x.defaultCount(), i);
        }
        answer(x, DefaultReasoner::dropDefault);
        is("none after a drop is refused", x.defaultCount(), 0);
    }

    // ---- promise 12

    private static void tellsClosure() {
        DefaultReasoner x = new DefaultReasoner();
        is("of none", x.closure(0), 0);
        is("of all", x.closure(ALL), ALL);
        x.setFact(4, true);
        is("the facts are not put in", x.closure(0), 0);
        x.addDefault(0, 0, 5);
        is("nor what defaults conclude", x.closure(0), 0);
        x.addRule(set(14), 15);
        is("a rule over the highest literals", x.closure(set(14)), 49152);
        is("appliedCount() stays", x.appliedCount(), 0);
    }

    private static void closureRange() {
        range(Checks::busy, "closure(", ARGUMENT, 0, ALL, DefaultReasoner::closure);
        range(DefaultReasoner::new, "closure(", ARGUMENT, 0, ALL, DefaultReasoner::closure);
    }

    // ---- promise 13

    private static void tellsOpen() {
        DefaultReasoner x = new DefaultReasoner();
        x.addDefault(ALL, set(0), 8);
        x.addDefault(0, set(15), 0);
        is("prerequisite and conclusion do not matter", x.isOpen(0, 0), true);
        is("nor does the set's closure", x.isOpen(0, set(7, 15)), true);
        is("a justification in the set", x.isOpen(0, set(0)), true);
        is("its complement in the set", x.isOpen(0, set(8)), false);
        is("both in the set", x.isOpen(0, set(0, 8)), false);
        is("the highest literal's complement", x.isOpen(1, set(7)), false);
        is("all but it", x.isOpen(1, ALL & ~set(7)), true);
    }

    private static void whichRange() {
        rangeOfDefaults("isOpen(", (x, d) -> x.isOpen(d, 0));
        rangeOfDefaults("isOpen of all (", (x, d) -> x.isOpen(d, ALL));
        refusedOutside(Checks::busy, "isOpen of a wrong set (", INDEX, 0, 3, (x, d) -> x.isOpen(d, 65536));
        refusedOutside(Checks::busy, "isOpen of a set below 0 (", INDEX, 0, 3, (x, d) -> x.isOpen(d, -1));
    }

    private static void openSetRange() {
        range(Checks::busy, "isOpen(0, ", ARGUMENT, 0, ALL, (x, s) -> x.isOpen(0, s));
        range(Checks::full, "isOpen(5, ", ARGUMENT, 0, ALL, (x, s) -> x.isOpen(5, s));
    }

    // ---- promise 14

    private static void generatorsOfAnySet() {
        DefaultReasoner x = tweety();
        is("of an extension", x.generatorsOf(set(0, 1, 2)), 1);
        is("of the other one", x.generatorsOf(set(0, 2, 9)), 2);
        is("of the empty set", x.generatorsOf(0), 3);
        is("of all literals", x.generatorsOf(ALL), 0);
        is("of a set that contradicts", x.generatorsOf(set(3, 11)), 3);
        is("where there is no extension", hopeless().generatorsOf(0), 1);
        is("where there is no extension, closed", hopeless().generatorsOf(set(8)), 0);
    }

    private static void sumOfDefaults() {
        is("no default", new DefaultReasoner().generatorsOf(0), 0);
        for (int i = 0; i < 6; i++) {
            DefaultReasoner x = plain(i);
            x.addDefault(0, set(7), 7);
            is("default " + i + " closed", x.generatorsOf(set(15)), (1 << i) - 1);
            is("default " + i + " open", x.generatorsOf(0), (2 << i) - 1);
        }
        DefaultReasoner y = groups();
        is("all six", y.generatorsOf(0), 63);
        is("the highest alone", y.generatorsOf(set(0, 1, 5)), 32);
    }

    private static void generatorsRange() {
        range(Checks::busy, "generatorsOf(", ARGUMENT, 0, ALL, DefaultReasoner::generatorsOf);
        range(DefaultReasoner::new, "generatorsOf(", ARGUMENT, 0, ALL, DefaultReasoner::generatorsOf);
    }

    // ---- promise 15

    private static void tellsExtension() {
        DefaultReasoner x = new DefaultReasoner();
        is("the empty set", x.isExtension(0), true);
        is("one literal", x.isExtension(1), false);
        is("all literals", x.isExtension(ALL), false);
        x.addRule(0, 7);
        x.addRule(0, 15);
        is("the empty set where rules contradict", x.isExtension(0), false);
        is("all literals where rules contradict", x.isExtension(ALL), true);
        int found = 0;
        DefaultReasoner part = groups();
        for (int set = 0; set < 64; set++) {
            found += part.isExtension(set) ? 1 : 0;
        }
        is("of two groups of three", found, 9);
    }

    private static void isExtensionRange() {
        range(Checks::busy, "isExtension(", ARGUMENT, 0, ALL, DefaultReasoner::isExtension);
        range(DefaultReasoner::new, "isExtension(", ARGUMENT, 0, ALL, DefaultReasoner::isExtension);
    }

    // ---- promises 16 and 17

    private static void countsExtensions() {
        is("none", hopeless().extensionCount(), 0);
        is("one, of an empty theory", new DefaultReasoner().extensionCount(), 1);
        is("two", tweety().extensionCount(), 2);
        is("eight", choices().extensionCount(), 8);
        is("nine", groups().extensionCount(), 9);
        DefaultReasoner x = choices();
        x.prefer(0, 1);
        is("those that are not preferred count too", x.extensionCount(), 8);
        x.setFact(0, true);
        is("a fact decides a choice", x.extensionCount(), 4);
        x.setFact(8, true);
        is("facts that contradict", x.extensionCount(), 1);
    }

    private static void tellsExtensionByNumber() {
        is("of an empty theory", new DefaultReasoner().extension(0), 0);
        DefaultReasoner x = groups();
        int[] due = {set(0, 3), set(1, 3), set(2, 3), set(0, 4), set(1, 4), set(2, 4), set(0, 5), set(1, 5), set(2, 5)};
        for (int i = 0; i < 9; i++) {
            is("extension(" + i + ")", x.extension(i), due[i]);
        }
        x.setFact(7, true);
        x.setFact(15, true);
        is("of facts that contradict", x.extension(0), ALL);
    }

    private static void extensionRange() {
        rangeOfExtensions("extension(", DefaultReasoner::extension);
        range(PromiseEdgesTest::groups, "extension(", INDEX, 0, 8, DefaultReasoner::extension);
    }

    // ---- promises 18 and 19

    private static void tellsPreferred() {
        is("of an empty theory", new DefaultReasoner().isPreferred(0), true);
        is("none is preferred", unpreferred().isPreferred(0), false);
        DefaultReasoner x = choices();
        for (int i = 0; i < 8; i++) {
            is("without priorities", x.isPreferred(i), true);
        }
        x.prefer(1, 0);
        x.prefer(2, 3);
        x.prefer(5, 4);
        for (int i = 0; i < 8; i++) {
            is("with a priority for each choice", x.isPreferred(i), x.extension(i) == set(8, 1, 10));
        }
    }

    private static void preferredRange() {
        rangeOfExtensions("isPreferred(", DefaultReasoner::isPreferred);
        range(PromiseEdgesTest::groups, "isPreferred(", INDEX, 0, 8, DefaultReasoner::isPreferred);
    }

    private static void countsPreferred() {
        is("no extension", hopeless().preferredCount(), 0);
        is("no preferred one", unpreferred().preferredCount(), 0);
        is("of an empty theory", new DefaultReasoner().preferredCount(), 1);
        DefaultReasoner x = choices();
        int due = 8;
        for (int choice = 0; choice < 3; choice++) {
            is("with " + choice + " choices decided", x.preferredCount(), due);
            x.prefer(2 * choice, 2 * choice + 1);
            due /= 2;
        }
        is("with all decided", x.preferredCount(), 1);
        is("nine", groups().preferredCount(), 9);
    }

    // ---- promise 20

    private static void countsSupport() {
        for (int literal = 0; literal < 16; literal++) {
            is("none", hopeless().supports(literal), 0);
            is("one that is empty", new DefaultReasoner().supports(literal), 0);
            is("some of eight", choices().supports(literal), literal % 8 < 3 ? 4 : 0);
            DefaultReasoner all = choices();
            all.setFact(literal, true);
            is("all that there are", all.supports(literal), all.extensionCount());
        }
        DefaultReasoner x = new DefaultReasoner();
        x.addRule(0, 0);
        x.addRule(0, 8);
        is("lowest of all literals", x.supports(0), 1);
        is("highest of all literals", x.supports(15), 1);
        is("where none is preferred", unpreferred().supports(8), 1);
    }

    private static void supportsRange() {
        range(Checks::busy, "supports(", INDEX, 0, 15, DefaultReasoner::supports);
        range(Checks::hopeless, "supports(", INDEX, 0, 15, DefaultReasoner::supports);
    }

    // ---- promise 21

    private static void tellsCommon() {
        is("of eight", choices().common(false), 0);
        is("of two", tweety().common(false), set(0, 2));
        DefaultReasoner x = choices();
        x.setFact(15, true);
        x.prefer(0, 1);
        is("of eight with a fact", x.common(false), set(15));
        is("of the four preferred", x.common(true), set(0, 15));
        is("of one that is empty", new DefaultReasoner().common(false), 0);
        is("of one that is empty and preferred", new DefaultReasoner().common(true), 0);
        DefaultReasoner y = new DefaultReasoner();
        y.setFact(1, true);
        y.setFact(9, true);
        is("of all literals", y.common(false), ALL);
    }

    private static void commonOfNone() {
        is("no extension", hopeless().common(false), 65535);
        is("no extension, so no preferred one", hopeless().common(true), 65535);
        is("no preferred one", unpreferred().common(true), 65535);
        is("one that is not preferred", unpreferred().common(false), set(8));
    }

    // ---- promise 22

    private static void tellsShare() {
        DefaultReasoner x = groups();
        for (int literal = 0; literal < 16; literal++) {
            is("a third", x.share(literal), literal < 6 ? 3.0 / 9 : 0.0);
        }
        DefaultReasoner y = choices();
        y.setFact(15, true);
        y.prefer(0, 1);
        is("in all preferred ones", y.share(0), 1.0);
        is("in others only", y.share(8), 0.0);
        is("in half of them", y.share(1), 0.5);
        is("a fact", y.share(15), 1.0);
        is("of an empty theory", new DefaultReasoner().share(15), 0.0);
    }

    private static void shareOfNone() {
        for (int literal = 0; literal < 16; literal++) {
            is("no extension", hopeless().share(literal), 0.0);
            is("no preferred one", unpreferred().share(literal), 0.0);
        }
    }

    private static void shareRange() {
        range(Checks::busy, "share(", INDEX, 0, 15, DefaultReasoner::share);
        range(Checks::hopeless, "share(", INDEX, 0, 15, DefaultReasoner::share);
    }

    // ---- promise 23

    private static void walksAnyOrder() {
        DefaultReasoner x = tweety();
        x.prefer(1, 0);
        is("an order that does not respect them", x.walk(0), set(0, 1, 2));
        is("an order that does", x.walk(1), set(0, 2, 9));
        DefaultReasoner y = unpreferred();
        is("to an extension that is not preferred", y.walk(1), set(8));
        is("to no extension", y.walk(0), set(1, 8));
    }

    /** Every other call leaves what the walk did, those that walk or lay out orders themselves too. */
    private static void keepsUntilNext() {
        Act[] others = {x -> x.setFact(9, true), x -> x.addRule(0, 6), x -> x.addDefault(0, 0, 6),
            DefaultReasoner::dropRule, x -> x.prefer(2, 1), DefaultReasoner::preferredCount,
            x -> x.respects(23), x -> x.isPreferred(0), x -> x.common(true), x -> x.share(3),
            x -> x.extension(0), x -> x.generatorsOf(0), x -> x.closure(9), x -> x.walk(-1),
            x -> x.walk(99999), x -> x.applied(7), DefaultReasoner::forgetPriorities,
            DefaultReasoner::digest, DefaultReasoner::dropDefault, DefaultReasoner::dropDefault,
            DefaultReasoner::dropDefault, DefaultReasoner::dropDefault, DefaultReasoner::dropDefault,
            DefaultReasoner::dropDefault, DefaultReasoner::preferredCount, x -> x.addDefault(0, 0, 1)};
        DefaultReasoner x = busy();
        is("what it did at first", did(x), "2 1 ");
        for (int i = 0; i < others.length; i++) {
            answer(x, others[i]);
            is("what it did, after call " + i, did(x), "2 1 ");
        }
        x.walk(0);
        is("what the next walk did", did(x), "0 ");
        x.dropDefault();
        x.walk(0);
        is("what a walk without defaults did", did(x), "");
    }

    private static String did(DefaultReasoner x) {
        StringBuilder text = new StringBuilder();
        for (int i = 0; i < x.appliedCount(); i++) {
            text.append(x.applied(i)).append(' ');
        }
        return text.toString();
    }

    private static void walkEndsWith() {
        is("the empty set", new DefaultReasoner().walk(0), 0);
        is("six conclusions", plain(6).walk(0), 63);
        DefaultReasoner x = plain(6);
        x.addRule(set(0, 1, 2, 3, 4, 5), 15);
        x.addRule(set(15), 7);
        is("all literals, by the last one", x.walk(719), ALL);
        is("the closure of its facts", busy().walk(0) & set(0, 2, 15), set(0, 2, 15));
    }

    private static void walkRange() {
        rangeOfOrders("walk(", DefaultReasoner::walk);
    }

    // ---- promises 24 and 25

    private static void countsApplied() {
        DefaultReasoner x = plain(6);
        is("no walk yet", x.appliedCount(), 0);
        x.preferredCount();
        is("no walk yet, though preferred ones were looked for", x.appliedCount(), 0);
        x.walk(100);
        is("the most", x.appliedCount(), 6);
        for (int literal = 0; literal < 6; literal++) {
            x.setFact(literal, true);
            x.walk(719);
            is("with " + literal + " held already", x.appliedCount(), 5 - literal);
        }
        DefaultReasoner y = choices();
        y.walk(0);
        is("half of them", y.appliedCount(), 3);
    }

    private static void tellsApplied() {
        DefaultReasoner x = plain(6);
        x.walk(719);
        for (int i = 0; i < 6; i++) {
            is("applied(" + i + ")", x.applied(i), 5 - i);
        }
        x.walk(0);
        for (int i = 0; i < 6; i++) {
            is("applied(" + i + ") of the next", x.applied(i), i);
        }
    }

    private static void appliedRange() {
        refusedAsNew(DefaultReasoner::new, "applied(0) before a walk", INDEX, x -> x.applied(0));
        refusedAsNew(DefaultReasoner::new, "applied(-1) before a walk", INDEX, x -> x.applied(-1));
        for (int n = 0; n <= 6; n++) {
            int count = n;
            Maker maker = () -> {
                DefaultReasoner x = plain(6);
                x.walk(719);
                for (int literal = count; literal < 6; literal++) {
                    x.setFact(literal, true);
                }
                x.walk(0);
                return x;
            };
            if (n > 0) {
                range(maker, "applied(", INDEX, 0, n - 1, DefaultReasoner::applied);
            } else {
                refusedAsNew(maker, "applied(0) of none", INDEX, x -> x.applied(0));
            }
        }
    }

    // ---- promise 26

    private static void tellsRespected() {
        is("no default", new DefaultReasoner().respects(0), true);
        is("one default", plain(1).respects(0), true);
        DefaultReasoner x = plain(2);
        is("no priority", x.respects(0) && x.respects(1), true);
        x.prefer(1, 0);
        is("against it", x.respects(0), false);
        is("with it", x.respects(1), true);
        DefaultReasoner y = plain(6);
        y.prefer(0, 3);
        y.prefer(3, 5);
        is("the first, with a rising chain", y.respects(0), true);
        is("the last, against it", y.respects(719), false);
        is("0 1 2 4 3 5, which keeps the chain", y.respects(2), true);
        is("0 1 2 4 5 3, whose last two are against it", y.respects(3), false);
        y.forgetPriorities();
        is("the last, once they are forgotten", y.respects(719), true);
    }

    private static void respectsRange() {
        rangeOfOrders("respects(", DefaultReasoner::respects);
    }

    // ---- promise 27

    private static void checksum() {
        is("of an empty theory", new DefaultReasoner().digest(), 113L * 31 * 31 * 31 * 31);
        is("the same twice", full().digest(), full().digest());
        DefaultReasoner x = full();
        x.digest();
        is("asked before", x.digest(), full().digest());
    }

    /** The document's numbers of the full object, one after the other, in whole numbers without end. */
    private static void wrapsAround() {
        DefaultReasoner x = full();
        int[] numbers = numbersOf(x);
        BigInteger d = BigInteger.valueOf(113);
        for (int number : numbers) {
            d = d.multiply(BigInteger.valueOf(31)).add(BigInteger.valueOf(number));
        }
        is("beyond 64 bits", d.bitLength() > 64, true);
        is("digest()", x.digest(), d.longValue());
        is("a negative digest can be", anyNegative(), true);
    }

    private static int[] numbersOf(DefaultReasoner x) {
        StringBuilder text = new StringBuilder("32772 16 4 0 33280 4");
        for (int i = 2; i < 16; i++) {
            text.append(' ').append(set(i % 8, 14)).append(" 5");
        }
        text.append(" 6 1 2 1 4 512 9 32768 8 3 32768 2048 11 0 32 5 0 8192 13");
        for (int a = 0; a < 6; a++) {
            for (int b = 0; b < 6; b++) {
                text.append(x.isBefore(a, b) ? " 1" : " 0");
            }
        }
        text.append(' ').append(x.appliedCount()).append(' ').append(did(x).strip());
        String[] words = text.toString().split(" ");
        int[] numbers = new int[words.length];
        for (int i = 0; i < words.length; i++) {
            numbers[i] = Integer.parseInt(words[i]);
        }
        return numbers;
    }

    private static boolean anyNegative() {
        DefaultReasoner x = new DefaultReasoner();
        boolean found = false;
        for (int i = 0; i < 16; i++) {
            x.addRule(ALL, 15);
            found |= x.digest() < 0;
        }
        return found;
    }

    /** Each number has its own place: to change any one of them changes d by its own power of 31. */
    private static void placesOfNumbers() {
        DefaultReasoner x = plain(2);
        is("no priority", x.digest(), digestOf(0, 0, 2, 0, 0, 0, 0, 0, 1, 0, 0, 0, 0, 0));
        x.prefer(0, 1);
        is("0 before 1", x.digest(), digestOf(0, 0, 2, 0, 0, 0, 0, 0, 1, 0, 1, 0, 0, 0));
        x.forgetPriorities();
        x.prefer(1, 0);
        is("1 before 0", x.digest(), digestOf(0, 0, 2, 0, 0, 0, 0, 0, 1, 0, 0, 1, 0, 0));
        x.walk(1);
        is("a walk", x.digest(), digestOf(0, 0, 2, 0, 0, 0, 0, 0, 1, 0, 0, 1, 0, 2, 1, 0));
        x.addRule(7, 3);
        x.setFact(15, true);
        is("a rule and a fact", x.digest(), digestOf(32768, 1, 7, 3, 2, 0, 0, 0, 0, 0, 1, 0, 0, 1, 0, 2, 1, 0));
        x.dropDefault();
        is("a default less", x.digest(), digestOf(32768, 1, 7, 3, 1, 0, 0, 0, 0, 2, 1, 0));
        x.addDefault(11, 13, 15);
        is("another default", x.digest(), digestOf(32768, 1, 7, 3, 2, 0, 0, 0, 11, 13, 15, 0, 0, 0, 0, 2, 1, 0));
    }

    private static void promises1To6() {
        promise(1);
        sentence("Creates a reasoner with an empty theory.", PromiseEdgesTest::emptyTheory);
        sentence("with an empty theory.", PromiseEdgesTest::askedFirst);
        sentence("Creates a reasoner", PromiseEdgesTest::emptyBesideAnother);
        promise(2);
        sentence("Makes a literal a fact", PromiseEdgesTest::makesFact);
        sentence(", or not.", PromiseEdgesTest::makesFactOfFull);
        sentence("Returns whether it was one before.", PromiseEdgesTest::wasFactBefore);
        sentence("Throws IndexOutOfBoundsException if literal is not 0 to 15", PromiseEdgesTest::setFactRange);
        promise(3);
        sentence("Adds a strict rule.", PromiseEdgesTest::addsRule);
        sentence("Returns its number.", PromiseEdgesTest::ruleNumbers);
        sentence("Throws IndexOutOfBoundsException if head is not 0 to 15", PromiseEdgesTest::headRange);
        sentence("Throws IllegalArgumentException if body is not 0 to 65535", PromiseEdgesTest::bodyRange);
        sentence("Throws IllegalStateException if there are 16 strict rules", PromiseEdgesTest::noSeventeenthRule);
        promise(4);
        sentence("Adds a default.", PromiseEdgesTest::addsDefault);
        sentence("Returns its number.", PromiseEdgesTest::defaultNumbers);
        sentence("Throws IndexOutOfBoundsException if conclusion is not 0 to 15", PromiseEdgesTest::conclusionRange);
        sentence("Throws IllegalArgumentException if prerequisite or justifications is not 0 to 65535",
                PromiseEdgesTest::partRange);
        sentence("Throws IllegalStateException if there are 6 defaults", PromiseEdgesTest::noSeventhDefault);
        promise(5);
        sentence("Removes the strict rule that was added last.", PromiseEdgesTest::lastRuleGoes);
        sentence("Returns how many are left.", PromiseEdgesTest::rulesLeft);
        sentence("Throws IllegalStateException if there is none", PromiseEdgesTest::noRuleLeft);
        promise(6);
        sentence("Removes the default that was added last", PromiseEdgesTest::lastDefaultGoes);
        sentence("and all preferences that it has to do with.", PromiseEdgesTest::preferencesGo);
        sentence("that it has to do with.", PromiseEdgesTest::otherPreferencesStay);
        sentence("Returns how many are left.", PromiseEdgesTest::defaultsLeft);
        sentence("Throws IllegalStateException if there is none", PromiseEdgesTest::noDefaultLeft);
    }

    private static void promises7To15() {
        promise(7);
        sentence("Prefers a default to another one.", PromiseEdgesTest::prefers);
        sentence("Returns whether a came before b already.", PromiseEdgesTest::cameBeforeAlready);
        sentence("Throws IndexOutOfBoundsException if there is no such default", PromiseEdgesTest::preferRange);
        sentence("Throws IllegalArgumentException if a is b, or b comes before a", PromiseEdgesTest::preferRefused);
        sentence("if a is b, or b comes before a", PromiseEdgesTest::preferTaken);
        promise(8);
        sentence("Removes all preferences.", PromiseEdgesTest::forgets);
        sentence("Returns how many pairs of a default and one that it comes before there were.",
                PromiseEdgesTest::pairsThereWere);
        promise(9);
        sentence("Returns whether a comes before b.", PromiseEdgesTest::comesBefore);
        sentence("Throws IndexOutOfBoundsException if there is no such default", PromiseEdgesTest::isBeforeRange);
        promise(10);
        sentence("Returns the facts.", PromiseEdgesTest::tellsFacts);
        promise(11);
        sentence("Returns the number of defaults.", PromiseEdgesTest::countsDefaults);
        promise(12);
        sentence("Returns its closure.", PromiseEdgesTest::tellsClosure);
        sentence("Throws IllegalArgumentException if set is not 0 to 65535", PromiseEdgesTest::closureRange);
        promise(13);
        sentence("Returns whether the default is open for the set.", PromiseEdgesTest::tellsOpen);
        sentence("Throws IndexOutOfBoundsException if there is no such default", PromiseEdgesTest::whichRange);
        sentence("Throws IllegalArgumentException if set is not 0 to 65535", PromiseEdgesTest::openSetRange);
        promise(14);
        sentence("whether E is an extension or not.", PromiseEdgesTest::generatorsOfAnySet);
        sentence("Returns the sum of the powers 2^d of these defaults d.", PromiseEdgesTest::sumOfDefaults);
        sentence("Throws IllegalArgumentException if set is not 0 to 65535", PromiseEdgesTest::generatorsRange);
        promise(15);
        sentence("Returns whether it is an extension.", PromiseEdgesTest::tellsExtension);
        sentence("Throws IllegalArgumentException if set is not 0 to 65535", PromiseEdgesTest::isExtensionRange);
    }

    private static void promises16To27() {
        promise(16);
        sentence("Returns the number of extensions.", PromiseEdgesTest::countsExtensions);
        promise(17);
        sentence("Returns the extension.", PromiseEdgesTest::tellsExtensionByNumber);
        sentence("Throws IndexOutOfBoundsException if there is no such extension", PromiseEdgesTest::extensionRange);
        promise(18);
        sentence("Returns whether it is preferred.", PromiseEdgesTest::tellsPreferred);
        sentence("Throws IndexOutOfBoundsException if there is no such extension", PromiseEdgesTest::preferredRange);
        promise(19);
        sentence("Returns the number of preferred extensions.", PromiseEdgesTest::countsPreferred);
        promise(20);
        sentence("Returns in how many extensions it is.", PromiseEdgesTest::countsSupport);
        sentence("Throws IndexOutOfBoundsException if literal is not 0 to 15", PromiseEdgesTest::supportsRange);
        promise(21);
        sentence("Returns the literals that are in all of them", PromiseEdgesTest::tellsCommon);
        sentence("all literals if there are none.", PromiseEdgesTest::commonOfNone);
        promise(22);
        sentence("Returns the number of preferred extensions that it is in, divided by their number",
                PromiseEdgesTest::tellsShare);
        sentence("0 if there are none.", PromiseEdgesTest::shareOfNone);
        sentence("Throws IndexOutOfBoundsException if literal is not 0 to 15", PromiseEdgesTest::shareRange);
        promise(23);
        sentence("Walks through an order (which need not respect the priorities)", PromiseEdgesTest::walksAnyOrder);
        sentence("keeps what it did until the next walk.", PromiseEdgesTest::keepsUntilNext);
        sentence("Returns the set with which it ends.", PromiseEdgesTest::walkEndsWith);
        sentence("Throws IllegalArgumentException if there is no such order", PromiseEdgesTest::walkRange);
        promise(24);
        sentence("Returns the number of defaults that the latest walk has applied.", PromiseEdgesTest::countsApplied);
        promise(25);
        sentence("Returns the default.", PromiseEdgesTest::tellsApplied);
        sentence("Throws IndexOutOfBoundsException if there is no such index", PromiseEdgesTest::appliedRange);
        promise(26);
        sentence("Returns whether it respects the priorities.", PromiseEdgesTest::tellsRespected);
        sentence("Throws IllegalArgumentException if there is no such order", PromiseEdgesTest::respectsRange);
        promise(27);
        sentence("Computes a checksum.", PromiseEdgesTest::checksum);
        sentence("which wraps around as a 64-bit integer", PromiseEdgesTest::wrapsAround);
        sentence("Returns d.", PromiseEdgesTest::placesOfNumbers);
    }

    public static void main(String[] args) throws Exception {
        promises1To6();
        promises7To15();
        promises16To27();
        allSentencesAreTested(1, 27);
        end();
    }
}
