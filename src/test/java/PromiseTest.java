import java.lang.reflect.Constructor;
import java.lang.reflect.Method;
import java.lang.reflect.Modifier;
import java.util.Arrays;
import java.util.Set;
import java.util.TreeSet;

/** For each promise of the document: ordinary inputs, the edges it names, and wrong inputs. */
public final class PromiseTest extends Checks {
    private static final int[] NOT_A_LITERAL = {-1, 16, 31, 32, Integer.MIN_VALUE, Integer.MAX_VALUE};
    private static final int[] NOT_A_SET = {-1, 65536, 131071, Integer.MIN_VALUE, Integer.MAX_VALUE};

    private static void newObject() {
        DefaultReasoner x = new DefaultReasoner();
        is("facts()", x.facts(), 0);
        is("defaultCount()", x.defaultCount(), 0);
        is("appliedCount()", x.appliedCount(), 0);
        is("extensionCount()", x.extensionCount(), 1);
        is("extension(0)", x.extension(0), 0);
        is("preferredCount()", x.preferredCount(), 1);
        is("forgetPriorities()", x.forgetPriorities(), 0);
        is("digest()", x.digest(), digestOf(0, 0, 0, 0));
        x.setFact(3, true);
        is("facts() of another object", new DefaultReasoner().facts(), 0);
    }

    private static void setFact() {
        DefaultReasoner x = new DefaultReasoner();
        for (int literal = 0; literal < 16; literal++) {
            is("setFact(new, true)", x.setFact(literal, true), false);
            is("facts()", x.facts(), (1 << literal + 1) - 1);
            is("setFact(old, true)", x.setFact(literal, true), true);
        }
        is("setFact(15, false)", x.setFact(15, false), true);
        is("setFact(15, false) again", x.setFact(15, false), false);
        is("facts()", x.facts(), 32767);
        for (int literal : NOT_A_LITERAL) {
            refused(x, "setFact(" + literal + ", true)", INDEX, () -> x.setFact(literal, true));
            refused(x, "setFact(" + literal + ", false)", INDEX, () -> x.setFact(literal, false));
        }
        DefaultReasoner y = tweety();
        is("extensionCount()", y.extensionCount(), 2);
        y.setFact(9, true);
        is("extensionCount() after a fact more", y.extensionCount(), 1);
        is("preferredCount() after a fact more", y.preferredCount(), 1);
        DefaultReasoner z = tweety();
        z.prefer(0, 1);
        is("common(true)", z.common(true), set(0, 1, 2));
        z.setFact(1, true);
        is("preferredCount() after a fact that agrees", z.preferredCount(), 1);
        z.setFact(1, false);
        z.setFact(9, true);
        is("common(true) after a fact that does not", z.common(true), set(0, 2, 9));
        is("share(9)", z.share(9), 1.0);
    }

    private static void addRule() {
        DefaultReasoner x = new DefaultReasoner();
        for (int i = 0; i < 16; i++) {
            is("addRule", x.addRule(1 << i, (i + 1) % 8), i);
        }
        refused(x, "a 17th rule", STATE, () -> x.addRule(0, 0));
        refused(x, "a bad body of a 17th rule", ARGUMENT, () -> x.addRule(-1, 0));
        refused(x, "a bad head of a 17th rule", INDEX, () -> x.addRule(0, 16));
        DefaultReasoner y = new DefaultReasoner();
        for (int head : NOT_A_LITERAL) {
            refused(y, "addRule(0, " + head + ")", INDEX, () -> y.addRule(0, head));
            refused(y, "addRule(-1, " + head + ")", INDEX, () -> y.addRule(-1, head));
        }
        for (int body : NOT_A_SET) {
            refused(y, "addRule(" + body + ", 0)", ARGUMENT, () -> y.addRule(body, 0));
        }
        is("addRule(65535, 15)", y.addRule(ALL, 15), 0);
        is("addRule(0, 0)", y.addRule(0, 0), 1);
        is("extension(0)", y.extension(0), 1);
        y.addRule(1, 4);
        is("extension(0) after a rule more", y.extension(0), 17);
    }

    private static void addDefault() {
        DefaultReasoner x = new DefaultReasoner();
        for (int i = 0; i < 6; i++) {
            is("addDefault", x.addDefault(0, 1 << i, i), i);
            is("defaultCount()", x.defaultCount(), i + 1);
            is("extension(0)", x.extension(0), (1 << i + 1) - 1);
        }
        refused(x, "a 7th default", STATE, () -> x.addDefault(0, 0, 0));
        refused(x, "a bad prerequisite of a 7th", ARGUMENT, () -> x.addDefault(-1, 0, 0));
        refused(x, "bad justifications of a 7th", ARGUMENT, () -> x.addDefault(0, 65536, 0));
        refused(x, "a bad conclusion of a 7th", INDEX, () -> x.addDefault(0, 0, -1));
        DefaultReasoner y = new DefaultReasoner();
        for (int literal : NOT_A_LITERAL) {
            refused(y, "conclusion " + literal, INDEX, () -> y.addDefault(0, 0, literal));
            refused(y, "all wrong", INDEX, () -> y.addDefault(-1, -1, literal));
        }
        for (int bad : NOT_A_SET) {
            refused(y, "prerequisite " + bad, ARGUMENT, () -> y.addDefault(bad, 0, 0));
            refused(y, "justifications " + bad, ARGUMENT, () -> y.addDefault(0, bad, 0));
        }
        is("addDefault(65535, 65535, 15)", y.addDefault(ALL, ALL, 15), 0);
        is("digest()", y.digest(), digestOf(0, 0, 1, ALL, ALL, 15, 0, 0));
    }

    private static void dropRule() {
        DefaultReasoner x = new DefaultReasoner();
        refused(x, "dropRule() without rules", STATE, x::dropRule);
        x.addRule(0, 1);
        x.addRule(0, 2);
        is("extension(0)", x.extension(0), set(1, 2));
        is("dropRule()", x.dropRule(), 1);
        is("extension(0) after dropRule", x.extension(0), set(1));
        is("closure(0) after dropRule", x.closure(0), set(1));
        is("dropRule()", x.dropRule(), 0);
        is("closure(0)", x.closure(0), 0);
        refused(x, "dropRule() after all are gone", STATE, x::dropRule);
        is("addRule after dropRule", x.addRule(0, 3), 0);
        is("closure(0)", x.closure(0), set(3));
    }

    private static void dropDefault() {
        DefaultReasoner x = new DefaultReasoner();
        refused(x, "dropDefault() without defaults", STATE, x::dropDefault);
        x.addDefault(0, 0, 1);
        x.addDefault(0, 0, 2);
        is("extension(0)", x.extension(0), set(1, 2));
        is("dropDefault()", x.dropDefault(), 1);
        is("extension(0)", x.extension(0), set(1));
        is("dropDefault()", x.dropDefault(), 0);
        refused(x, "dropDefault() after all are gone", STATE, x::dropDefault);

        DefaultReasoner y = plain(4);
        y.prefer(0, 3);
        y.prefer(3, 1);
        is("isBefore(0, 1)", y.isBefore(0, 1), true);
        y.dropDefault();
        is("isBefore(0, 1) without the middle", y.isBefore(0, 1), false);
        y.addDefault(0, 0, 3);
        is("isBefore(0, 3) of a new default", y.isBefore(0, 3), false);
        is("isBefore(3, 1) of a new default", y.isBefore(3, 1), false);
        is("forgetPriorities()", y.forgetPriorities(), 0);

        DefaultReasoner z = plain(3);
        z.prefer(0, 2);
        z.prefer(2, 1);
        is("prefer(0, 1), which a chain says", z.prefer(0, 1), true);
        z.dropDefault();
        is("isBefore(0, 1) by its own preference", z.isBefore(0, 1), true);

        DefaultReasoner v = plain(6);
        for (int i = 0; i < 5; i++) {
            v.prefer(i, 5);
        }
        v.dropDefault();
        v.addDefault(0, 0, 5);
        for (int i = 0; i < 5; i++) {
            is("isBefore(" + i + ", 5) of a new default", v.isBefore(i, 5), false);
        }

        DefaultReasoner w = tweety();
        w.walk(1);
        w.dropDefault();
        is("appliedCount() after dropDefault", w.appliedCount(), 1);
        is("applied(0) after dropDefault", w.applied(0), 1);
    }

    private static void prefer() {
        DefaultReasoner x = plain(4);
        for (int bad : new int[] {-1, 4, 6, 32, Integer.MIN_VALUE, Integer.MAX_VALUE}) {
            refused(x, "prefer(0, " + bad + ")", INDEX, () -> x.prefer(0, bad));
            refused(x, "prefer(" + bad + ", 0)", INDEX, () -> x.prefer(bad, 0));
            refused(x, "prefer(" + bad + ", the same)", INDEX, () -> x.prefer(bad, bad));
        }
        refused(x, "prefer(2, 2)", ARGUMENT, () -> x.prefer(2, 2));
        is("prefer(2, 1)", x.prefer(2, 1), false);
        is("prefer(2, 1) again", x.prefer(2, 1), true);
        is("prefer(1, 3)", x.prefer(1, 3), false);
        is("prefer(2, 3), which a chain says", x.prefer(2, 3), true);
        refused(x, "prefer(1, 2)", ARGUMENT, () -> x.prefer(1, 2));
        refused(x, "prefer(3, 2)", ARGUMENT, () -> x.prefer(3, 2));
        is("prefer(3, 0)", x.prefer(3, 0), false);
        refused(x, "prefer(0, 2)", ARGUMENT, () -> x.prefer(0, 2));
        DefaultReasoner y = tweety();
        is("preferredCount()", y.preferredCount(), 2);
        y.prefer(1, 0);
        is("preferredCount() after prefer", y.preferredCount(), 1);
        is("extensionCount() after prefer", y.extensionCount(), 2);
    }

    private static void forgetPriorities() {
        DefaultReasoner x = plain(6);
        is("forgetPriorities()", x.forgetPriorities(), 0);
        for (int i = 5; i > 0; i--) {
            x.prefer(i, i - 1);
        }
        is("forgetPriorities() of a chain", x.forgetPriorities(), 15);
        is("forgetPriorities() again", x.forgetPriorities(), 0);
        is("isBefore(5, 4)", x.isBefore(5, 4), false);
        x.prefer(0, 1);
        x.prefer(0, 1);
        x.prefer(2, 1);
        is("forgetPriorities() of two pairs", x.forgetPriorities(), 2);
        is("prefer(1, 0)", x.prefer(1, 0), false);
        DefaultReasoner y = tweety();
        y.prefer(1, 0);
        is("preferredCount()", y.preferredCount(), 1);
        y.forgetPriorities();
        is("preferredCount() after it", y.preferredCount(), 2);
    }

    private static void isBefore() {
        DefaultReasoner x = plain(5);
        x.prefer(3, 1);
        x.prefer(1, 4);
        x.prefer(4, 0);
        boolean[][] due = new boolean[5][5];
        due[3][1] = due[3][4] = due[3][0] = due[1][4] = due[1][0] = due[4][0] = true;
        for (int a = 0; a < 5; a++) {
            for (int b = 0; b < 5; b++) {
                is("isBefore(" + a + ", " + b + ")", x.isBefore(a, b), due[a][b]);
            }
        }
        for (int bad : new int[] {-1, 5, 6, 37, Integer.MIN_VALUE, Integer.MAX_VALUE}) {
            refused(x, "isBefore(0, " + bad + ")", INDEX, () -> x.isBefore(0, bad));
            refused(x, "isBefore(" + bad + ", 0)", INDEX, () -> x.isBefore(bad, 0));
        }
        DefaultReasoner none = new DefaultReasoner();
        refused(none, "isBefore(0, 0) without defaults", INDEX, () -> none.isBefore(0, 0));
    }

    private static void facts() {
        DefaultReasoner x = new DefaultReasoner();
        x.addRule(set(2), 3);
        x.addDefault(0, 0, 5);
        x.setFact(2, true);
        x.setFact(10, true);
        is("facts(), which are not closed", x.facts(), set(2, 10));
        x.setFact(2, false);
        is("facts()", x.facts(), set(10));
    }

    private static void defaultCount() {
        DefaultReasoner x = plain(6);
        is("defaultCount()", x.defaultCount(), 6);
        x.dropDefault();
        x.addRule(0, 0);
        is("defaultCount()", x.defaultCount(), 5);
    }

    private static void closure() {
        DefaultReasoner x = new DefaultReasoner();
        is("closure(5) without rules", x.closure(5), 5);
        is("closure(65535)", x.closure(ALL), ALL);
        for (int atom = 0; atom < 8; atom++) {
            is("closure of a literal and its complement", x.closure(set(atom, atom + 8)), ALL);
            is("closure of a literal", x.closure(set(atom + 8)), set(atom + 8));
        }
        is("closure of all atoms", x.closure(255), 255);
        is("closure of no atom", x.closure(65280), 65280);
        // The chain stands against the order of the rules, so that each pass finds one head.
        for (int i = 6; i >= 0; i--) {
            x.addRule(set(i), i + 1);
        }
        is("closure of a chain", x.closure(1), 255);
        is("closure of a part of a chain", x.closure(set(4, 11)), set(4, 5, 6, 7, 11));
        is("closure that contradicts", x.closure(set(4, 14)), ALL);
        x.addRule(set(8, 9), 10);
        is("closure with half a body", x.closure(set(8)), set(8));
        is("closure with a body", x.closure(set(8, 9)), set(8, 9, 10));
        x.setFact(3, true);
        is("closure without the facts", x.closure(0), 0);
        x.addRule(0, 15);
        is("closure(0) with an empty body", x.closure(0), set(15));
        is("closure(1) with an empty body", x.closure(1), ALL);
        for (int bad : NOT_A_SET) {
            refused(x, "closure(" + bad + ")", ARGUMENT, () -> x.closure(bad));
        }
        DefaultReasoner y = new DefaultReasoner();
        for (int i = 14; i >= 0; i--) {
            y.addRule(set(i), i + 1);
        }
        is("closure of the longest chain", y.closure(set(7)), ALL);
        is("closure of its upper half", y.closure(set(8)), 65280);
    }

    private static void isOpen() {
        DefaultReasoner x = new DefaultReasoner();
        x.addDefault(set(5), set(0, 9), 3);
        x.addDefault(0, 0, 0);
        for (int literal = 0; literal < 16; literal++) {
            boolean due = literal != 8 && literal != 1;
            is("isOpen(0, " + (1 << literal) + ")", x.isOpen(0, 1 << literal), due);
        }
        is("isOpen(0, 0)", x.isOpen(0, 0), true);
        is("isOpen(0, all but two)", x.isOpen(0, ALL & ~set(1, 8)), true);
        is("isOpen(1, 65535) without justifications", x.isOpen(1, ALL), true);
        for (int bad : new int[] {-1, 2, 6, Integer.MIN_VALUE, Integer.MAX_VALUE}) {
            refused(x, "isOpen(" + bad + ", 0)", INDEX, () -> x.isOpen(bad, 0));
            refused(x, "isOpen(" + bad + ", -1)", INDEX, () -> x.isOpen(bad, -1));
        }
        for (int bad : NOT_A_SET) {
            refused(x, "isOpen(0, " + bad + ")", ARGUMENT, () -> x.isOpen(0, bad));
        }
    }

    private static void generatorsOf() {
        DefaultReasoner x = tweety();
        is("generatorsOf(0)", x.generatorsOf(0), 3);
        is("generatorsOf(set(1))", x.generatorsOf(set(1)), 1);
        is("generatorsOf(set(9))", x.generatorsOf(set(9)), 2);
        is("generatorsOf(65535)", x.generatorsOf(ALL), 0);
        DefaultReasoner y = new DefaultReasoner();
        y.addDefault(set(1), 0, 2);
        y.addDefault(set(3), 0, 1);
        y.addDefault(0, set(4), 3);
        y.addDefault(set(6), 0, 6);
        is("generatorsOf a chain", y.generatorsOf(0), 7);
        is("generatorsOf a set that closes the chain's start", y.generatorsOf(set(12)), 0);
        is("generatorsOf takes no prerequisite from the set", y.generatorsOf(set(6)), 7);
        // The chain stands against the numbers of the defaults, so that each round finds one.
        DefaultReasoner z = new DefaultReasoner();
        for (int i = 5; i >= 0; i--) {
            z.addDefault(set(i), set(7), i + 1);
        }
        is("generatorsOf a chain without its start", z.generatorsOf(0), 0);
        z.setFact(0, true);
        is("generatorsOf the longest chain", z.generatorsOf(0), 63);
        z.setFact(0, false);
        z.setFact(3, true);
        is("generatorsOf the chain's end", z.generatorsOf(0), 7);
        for (int bad : NOT_A_SET) {
            refused(y, "generatorsOf(" + bad + ")", ARGUMENT, () -> y.generatorsOf(bad));
        }
    }

    private static void isExtension() {
        DefaultReasoner x = tweety();
        int count = 0;
        DefaultReasoner part = x;
        for (int e = 0; e <= ALL; e++) {
            // An object answers 512 calls; what it says after them is free.
            part = e % 256 == 0 ? tweety() : part;
            boolean due = e == set(0, 1, 2) || e == set(0, 2, 9);
            if (part.isExtension(e) != due) {
                count++;
            }
        }
        is("sets that isExtension is wrong about", count, 0);
        for (int bad : NOT_A_SET) {
            refused(x, "isExtension(" + bad + ")", ARGUMENT, () -> x.isExtension(bad));
        }
        DefaultReasoner y = new DefaultReasoner();
        y.addDefault(set(0), 0, 0);
        is("isExtension of a conclusion that stands on itself", y.isExtension(1), false);
        is("isExtension(0)", y.isExtension(0), true);
        y.setFact(1, true);
        y.setFact(9, true);
        is("isExtension(65535) of facts that contradict", y.isExtension(ALL), true);
    }

    private static void extensionCount() {
        is("extensionCount() of tweety", tweety().extensionCount(), 2);
        is("extensionCount() of none", hopeless().extensionCount(), 0);
        DefaultReasoner x = new DefaultReasoner();
        for (int atom = 0; atom < 3; atom++) {
            x.addDefault(0, set(atom), atom);
            x.addDefault(0, set(atom + 8), atom + 8);
        }
        is("extensionCount() of three choices", x.extensionCount(), 8);
        x.walk(719);
        is("appliedCount() after walk and count", x.appliedCount() + 0 * x.extensionCount(), 3);
        DefaultReasoner y = new DefaultReasoner();
        y.addDefault(0, set(0), 1);
        y.addDefault(0, 0, 1);
        is("extensionCount() of two ways to one set", y.extensionCount(), 1);
    }

    private static void extension() {
        DefaultReasoner x = new DefaultReasoner();
        for (int atom = 0; atom < 3; atom++) {
            x.addDefault(0, set(atom + 8), atom + 8);
            x.addDefault(0, set(atom), atom);
        }
        int last = -1;
        for (int i = 0; i < 8; i++) {
            int e = x.extension(i);
            is("isExtension(extension(" + i + "))", x.isExtension(e), true);
            is("extension(" + i + ") is greater than the one before", e > last, true);
            last = e;
        }
        is("extension(0)", x.extension(0), set(0, 1, 2));
        is("extension(7)", x.extension(7), set(8, 9, 10));
        for (int bad : new int[] {-1, 8, 63, 64, Integer.MIN_VALUE, Integer.MAX_VALUE}) {
            refused(x, "extension(" + bad + ")", INDEX, () -> x.extension(bad));
        }
        DefaultReasoner none = hopeless();
        refused(none, "extension(0) of none", INDEX, () -> none.extension(0));
        DefaultReasoner y = new DefaultReasoner();
        y.addDefault(0, 0, 0);
        y.addDefault(0, 0, 8);
        is("extension(0) of what contradicts", y.extension(0), ALL);
    }

    private static void isPreferred() {
        DefaultReasoner x = tweety();
        x.walk(0);
        is("isPreferred(0)", x.isPreferred(0), true);
        is("isPreferred(1)", x.isPreferred(1), true);
        x.prefer(1, 0);
        is("isPreferred(0) after prefer", x.isPreferred(0), false);
        is("isPreferred(1) after prefer", x.isPreferred(1), true);
        is("applied(0) of the walk before", x.applied(0), 0);
        for (int bad : new int[] {-1, 2, 64, Integer.MIN_VALUE, Integer.MAX_VALUE}) {
            refused(x, "isPreferred(" + bad + ")", INDEX, () -> x.isPreferred(bad));
        }
        x.addDefault(0, set(5), 5);
        is("isPreferred(0) after a default more", x.isPreferred(0), false);
        is("isPreferred(1) after a default more", x.isPreferred(1), true);
        DefaultReasoner y = plain(6);
        is("isPreferred(0) after six steps", y.isPreferred(0), true);
        y.prefer(5, 0);
        is("isPreferred(0) after six steps and prefer", y.isPreferred(0), true);
        DefaultReasoner none = hopeless();
        refused(none, "isPreferred(0) of none", INDEX, () -> none.isPreferred(0));
    }

    private static void preferredCount() {
        DefaultReasoner x = tweety();
        is("preferredCount()", x.preferredCount(), 2);
        x.prefer(0, 1);
        is("preferredCount() after prefer", x.preferredCount(), 1);
        is("preferredCount() of none", hopeless().preferredCount(), 0);
        // The walk applies the first default before the second closes it, so it ends elsewhere.
        DefaultReasoner y = new DefaultReasoner();
        y.addDefault(0, set(0), 1);
        y.addDefault(0, 0, 8);
        is("extensionCount()", y.extensionCount(), 1);
        is("extension(0)", y.extension(0), set(8));
        is("preferredCount() by the other order", y.preferredCount(), 1);
        y.prefer(0, 1);
        is("preferredCount() if no walk ends with an extension", y.preferredCount(), 0);
        is("extensionCount() still", y.extensionCount(), 1);
    }

    private static void supports() {
        DefaultReasoner x = tweety();
        int[] due = {2, 1, 2, 0, 0, 0, 0, 0, 0, 1, 0, 0, 0, 0, 0, 0};
        for (int literal = 0; literal < 16; literal++) {
            is("supports(" + literal + ")", x.supports(literal), due[literal]);
        }
        x.prefer(1, 0);
        is("supports(1) counts those that are not preferred", x.supports(1), 1);
        for (int bad : NOT_A_LITERAL) {
            refused(x, "supports(" + bad + ")", INDEX, () -> x.supports(bad));
        }
        is("supports(9) of both", x.supports(9), 1);
        x.dropDefault();
        is("supports(9) after its default is gone", x.supports(9), 0);
        is("supports(0) of one that is left", x.supports(0), 1);
        is("supports(8) of none", hopeless().supports(8), 0);
    }

    private static void common() {
        DefaultReasoner x = tweety();
        is("common(false)", x.common(false), set(0, 2));
        is("common(true)", x.common(true), set(0, 2));
        x.prefer(0, 1);
        is("common(false) after prefer", x.common(false), set(0, 2));
        is("common(true) after prefer", x.common(true), set(0, 1, 2));
        is("common(false) of none", hopeless().common(false), ALL);
        is("common(true) of none", hopeless().common(true), ALL);
        DefaultReasoner y = new DefaultReasoner();
        y.addDefault(0, set(0), 1);
        y.addDefault(0, 0, 8);
        y.prefer(0, 1);
        is("common(false) of one that is not preferred", y.common(false), set(8));
        is("common(true) if none is preferred", y.common(true), ALL);
    }

    private static void share() {
        DefaultReasoner x = tweety();
        is("share(0)", x.share(0), 1.0);
        is("share(1)", x.share(1), 0.5);
        is("share(9)", x.share(9), 0.5);
        is("share(15)", x.share(15), 0.0);
        x.prefer(1, 0);
        is("share(1) after prefer", x.share(1), 0.0);
        is("share(9) after prefer", x.share(9), 1.0);
        for (int bad : NOT_A_LITERAL) {
            refused(x, "share(" + bad + ")", INDEX, () -> x.share(bad));
        }
        x.dropDefault();
        is("share(1) after a default is gone", x.share(1), 1.0);
        is("share(9) after a default is gone", x.share(9), 0.0);
        is("share(8) of none", hopeless().share(8), 0.0);
        DefaultReasoner y = new DefaultReasoner();
        y.addRule(set(0, 1), 10);
        y.addRule(set(0, 2), 9);
        y.addRule(set(1, 2), 8);
        for (int atom = 0; atom < 3; atom++) {
            y.addDefault(0, set(atom), atom);
        }
        is("share of two thirds", y.share(0), 2.0 / 3);
        is("share of a third", y.share(8), 1.0 / 3);
    }

    private static void walk() {
        DefaultReasoner x = tweety();
        is("walk(0)", x.walk(0), set(0, 1, 2));
        is("walk(1)", x.walk(1), set(0, 2, 9));
        x.prefer(0, 1);
        is("walk(1), which does not respect the priorities", x.walk(1), set(0, 2, 9));
        for (int bad : new int[] {-1, 2, 720, Integer.MIN_VALUE, Integer.MAX_VALUE}) {
            refused(x, "walk(" + bad + ")", ARGUMENT, () -> x.walk(bad));
        }
        is("walk(0) without defaults", new DefaultReasoner().walk(0), 0);
        DefaultReasoner none = new DefaultReasoner();
        refused(none, "walk(1) without defaults", ARGUMENT, () -> none.walk(1));
        none.setFact(0, true);
        none.setFact(8, true);
        is("walk(0) of facts that contradict", none.walk(0), ALL);

        // After each step the walk looks for the first one again, from the order's start.
        DefaultReasoner y = new DefaultReasoner();
        y.addDefault(set(1), 0, 2);
        y.addDefault(0, set(10), 3);
        y.addDefault(0, 0, 1);
        is("walk(1), which is 0 2 1", y.walk(1), set(1, 2));
        is("appliedCount()", y.appliedCount(), 2);
        is("walk(0), which is 0 1 2", y.walk(0), set(1, 2, 3));
        is("applied(0)", y.applied(0), 1);
        is("applied(1)", y.applied(1), 2);
        is("applied(2)", y.applied(2), 0);
        DefaultReasoner z = new DefaultReasoner();
        z.addDefault(0, 0, 0);
        z.addDefault(0, 0, 8);
        z.addDefault(0, 0, 1);
        is("walk(2) that ends in a contradiction", z.walk(2), ALL);
        is("appliedCount() up to it", z.appliedCount(), 2);
        is("walk(1)", z.walk(1), ALL);
        is("appliedCount()", z.appliedCount(), 3);
    }

    private static void orders() {
        for (int n = 0; n <= 6; n++) {
            int[] order = new int[n];
            for (int i = 0; i < n; i++) {
                order[i] = i;
            }
            int number = 0;
            do {
                DefaultReasoner x = plain(n);
                x.walk(number);
                int[] got = new int[x.appliedCount()];
                for (int i = 0; i < got.length; i++) {
                    got[i] = x.applied(i);
                }
                is("order " + number, Arrays.toString(got), Arrays.toString(order));
                number++;
            } while (nextOrder(order));
            int beyond = number;
            DefaultReasoner x = plain(n);
            refused(x, "walk beyond the last order", ARGUMENT, () -> x.walk(beyond));
            refused(x, "respects beyond the last order", ARGUMENT, () -> x.respects(beyond));
        }
    }

    private static boolean nextOrder(int[] order) {
        int i = order.length - 2;
        while (i >= 0 && order[i] > order[i + 1]) {
            i--;
        }
        if (i < 0) {
            return false;
        }
        int j = order.length - 1;
        while (order[j] < order[i]) {
            j--;
        }
        int kept = order[i];
        order[i] = order[j];
        order[j] = kept;
        Arrays.sort(order, i + 1, order.length);
        return true;
    }

    private static void appliedCount() {
        DefaultReasoner x = plain(6);
        is("appliedCount() before a walk", x.appliedCount(), 0);
        x.walk(0);
        is("appliedCount() of all", x.appliedCount(), 6);
        x.setFact(2, true);
        is("appliedCount() until the next walk", x.appliedCount(), 6);
        x.walk(0);
        is("appliedCount() without what holds already", x.appliedCount(), 5);
        for (int i = 0; i < 6; i++) {
            x.dropDefault();
        }
        is("appliedCount() after all defaults are gone", x.appliedCount(), 5);
        x.walk(0);
        is("appliedCount() of a walk without defaults", x.appliedCount(), 0);
    }

    private static void applied() {
        DefaultReasoner x = plain(3);
        refused(x, "applied(0) before a walk", INDEX, () -> x.applied(0));
        x.walk(4);
        is("applied(0)", x.applied(0), 2);
        is("applied(1)", x.applied(1), 0);
        is("applied(2)", x.applied(2), 1);
        for (int bad : new int[] {-1, 3, 6, Integer.MIN_VALUE, Integer.MAX_VALUE}) {
            refused(x, "applied(" + bad + ")", INDEX, () -> x.applied(bad));
        }
        x.preferredCount();
        x.respects(0);
        is("applied(0) after other calls", x.applied(0), 2);
        x.setFact(2, true);
        x.walk(4);
        is("applied(0) of the next walk", x.applied(0), 0);
        refused(x, "applied(2) of the next walk", INDEX, () -> x.applied(2));
    }

    private static void respects() {
        DefaultReasoner x = plain(3);
        for (int order = 0; order < 6; order++) {
            is("respects(" + order + ") without priorities", x.respects(order), true);
        }
        x.prefer(2, 0);
        boolean[] due = {false, false, false, true, true, true};
        for (int order = 0; order < 6; order++) {
            is("respects(" + order + ")", x.respects(order), due[order]);
        }
        x.prefer(0, 1);
        for (int order = 0; order < 6; order++) {
            is("respects(" + order + ") of a chain", x.respects(order), order == 4);
        }
        for (int bad : new int[] {-1, 6, 24, Integer.MIN_VALUE, Integer.MAX_VALUE}) {
            refused(x, "respects(" + bad + ")", ARGUMENT, () -> x.respects(bad));
        }
        DefaultReasoner none = new DefaultReasoner();
        is("respects(0) without defaults", none.respects(0), true);
        refused(none, "respects(1) without defaults", ARGUMENT, () -> none.respects(1));
    }

    private static void digest() {
        DefaultReasoner x = tweety();
        x.addRule(set(9, 15), 4);
        x.addDefault(set(3), set(7, 12), 14);
        long[] theory = {4, 2, 4, 0, set(9, 15), 4, 3, 1, 2, 1, 4, set(9), 9, 8, set(7, 12), 14};
        is("digest()", x.digest(), digestOf(join(theory, 0, 0, 0, 0, 0, 0, 0, 0, 0, 0)));
        x.prefer(1, 0);
        x.prefer(0, 2);
        is("digest() with a chain", x.digest(), digestOf(join(theory, 0, 0, 1, 1, 0, 1, 0, 0, 0, 0)));
        x.walk(2);
        is("digest() with a walk", x.digest(), digestOf(join(theory, 0, 0, 1, 1, 0, 1, 0, 0, 0, 1, 1)));
        DefaultReasoner y = plain(3);
        y.walk(5);
        is("digest() with a longer walk", y.digest(), digestOf(0, 0, 3, 0, 0, 0, 0, 0, 1, 0, 0, 2,
                0, 0, 0, 0, 0, 0, 0, 0, 0, 3, 2, 1, 0));
        x.dropRule();
        x.dropDefault();
        is("digest() after drops", x.digest(),
                digestOf(4, 1, 4, 0, 2, 1, 2, 1, 4, set(9), 9, 0, 0, 1, 0, 1, 1));
    }

    private static long[] join(long[] a, long... b) {
        long[] both = Arrays.copyOf(a, a.length + b.length);
        System.arraycopy(b, 0, both, a.length, b.length);
        return both;
    }

    /** The class has the document's constructor and methods, and nothing else that can be seen. */
    private static void face() {
        Class<?> type = DefaultReasoner.class;
        is("public final", Modifier.isPublic(type.getModifiers()) && Modifier.isFinal(type.getModifiers()), true);
        Set<String> got = new TreeSet<>();
        for (Method m : type.getDeclaredMethods()) {
            if (!Modifier.isPrivate(m.getModifiers()) && !m.isSynthetic()) {
                got.add(m.getReturnType() + " " + m.getName() + names(m.getParameterTypes())
                        + names(m.getExceptionTypes()));
            }
        }
        for (Constructor<?> c : type.getDeclaredConstructors()) {
            got.add("new " + names(c.getParameterTypes()));
        }
        is("fields that can be seen", Arrays.stream(type.getDeclaredFields())
                .filter(f -> !Modifier.isPrivate(f.getModifiers())).count(), 0L);
        String i = "IndexOutOfBoundsException";
        String a = "IllegalArgumentException";
        String s = "IllegalStateException";
        Set<String> due = new TreeSet<>(Arrays.asList("new []",
                "boolean setFact[int, boolean][" + i + "]",
                "int addRule[int, int][" + i + ", " + a + ", " + s + "]",
                "int addDefault[int, int, int][" + i + ", " + a + ", " + s + "]",
                "int dropRule[][" + s + "]", "int dropDefault[][" + s + "]",
                "boolean prefer[int, int][" + i + ", " + a + "]", "int forgetPriorities[][]",
                "boolean isBefore[int, int][" + i + "]", "int facts[][]", "int defaultCount[][]",
                "int closure[int][" + a + "]", "boolean isOpen[int, int][" + i + ", " + a + "]",
                "int generatorsOf[int][" + a + "]", "boolean isExtension[int][" + a + "]",
                "int extensionCount[][]", "int extension[int][" + i + "]",
                "boolean isPreferred[int][" + i + "]", "int preferredCount[][]",
                "int supports[int][" + i + "]", "int common[boolean][]", "double share[int][" + i + "]",
                "int walk[int][" + a + "]", "int appliedCount[][]", "int applied[int][" + i + "]",
                "boolean respects[int][" + a + "]", "long digest[][]"));
        is("the face", got, due);
    }

    private static String names(Class<?>[] types) {
        return Arrays.toString(Arrays.stream(types).map(Class::getSimpleName).toArray());
    }

    public static void main(String[] args) {
        Call[] promises = {PromiseTest::newObject, PromiseTest::setFact, PromiseTest::addRule,
            PromiseTest::addDefault, PromiseTest::dropRule, PromiseTest::dropDefault,
            PromiseTest::prefer, PromiseTest::forgetPriorities, PromiseTest::isBefore,
            PromiseTest::facts, PromiseTest::defaultCount, PromiseTest::closure,
            PromiseTest::isOpen, PromiseTest::generatorsOf, PromiseTest::isExtension,
            PromiseTest::extensionCount, PromiseTest::extension, PromiseTest::isPreferred,
            PromiseTest::preferredCount, PromiseTest::supports, PromiseTest::common,
            PromiseTest::share, PromiseTest::walk, PromiseTest::appliedCount,
            PromiseTest::applied, PromiseTest::respects, PromiseTest::digest};
        for (int i = 0; i < promises.length; i++) {
            at("promise " + (i + 1));
            promises[i].run();
        }
        at("promise 23");
        orders();
        at("the face");
        face();
        end();
    }
}
