import java.util.ArrayList;
import java.util.List;
import java.util.Random;
import java.util.TreeSet;

/**
 * Runs of chosen calls, each answer held against a slow model that follows the document's words:
 * it tries all sets as extensions and walks through all orders. The seeds are fixed.
 */
public final class ReferenceTest {
    private static final int ALL = 65535;
    private static final int RUNS = 250;
    private static final int CALLS = 512;
    private static int wrong = 0;

    /** The theory as lists, and every answer worked out anew from the definitions. */
    private static final class Model {
        private final boolean[] fact = new boolean[16];
        private final List<int[]> rules = new ArrayList<>();
        private final List<int[]> defaults = new ArrayList<>();
        private final List<int[]> preferences = new ArrayList<>();
        private List<Integer> applied = new ArrayList<>();
        private List<Integer> extensions;
        private List<Integer> preferred;

        private int factSet() {
            int sum = 0;
            for (int l = 0; l < 16; l++) {
                sum += fact[l] ? 1 << l : 0;
            }
            return sum;
        }

        private int close(int set) {
            int closed = set;
            boolean grew = true;
            while (grew) {
                grew = false;
                for (int[] rule : rules) {
                    if ((closed & rule[0]) == rule[0] && (closed & 1 << rule[1]) == 0) {
                        closed |= 1 << rule[1];
                        grew = true;
                    }
                }
            }
            for (int atom = 0; atom < 8; atom++) {
                if ((closed & 1 << atom) != 0 && (closed & 1 << atom + 8) != 0) {
                    return ALL;
                }
            }
            return closed;
        }

        private boolean open(int d, int set) {
            for (int l = 0; l < 16; l++) {
                if ((defaults.get(d)[1] & 1 << l) != 0 && (set & 1 << (l + 8) % 16) != 0) {
                    return false;
                }
            }
            return true;
        }

        private int heldBy(int group) {
            int set = factSet();
            for (int d = 0; d < defaults.size(); d++) {
                if ((group & 1 << d) != 0) {
                    set |= 1 << defaults.get(d)[2];
                }
            }
            return close(set);
        }

        /** Whether the group contains each default that it must contain for the set. */
        private boolean isComplete(int group, int set) {
            int held = heldBy(group);
            for (int d = 0; d < defaults.size(); d++) {
                boolean must = open(d, set) && (held & defaults.get(d)[0]) == defaults.get(d)[0];
                if (must && (group & 1 << d) == 0) {
                    return false;
                }
            }
            return true;
        }

        /** The smallest complete group is what all complete groups have in common. */
        private int generators(int set) {
            int group = (1 << defaults.size()) - 1;
            for (int other = 0; other < 1 << defaults.size(); other++) {
                if ((other & group) != group && isComplete(other, set)) {
                    group &= other;
                }
            }
            return group;
        }

        private boolean isExt(int set) {
            return heldBy(generators(set)) == set;
        }

        private boolean before(int a, int b) {
            return chain(a, b, 0);
        }

        private boolean chain(int a, int b, int length) {
            for (int[] p : preferences) {
                if (p[0] == a && (p[1] == b || length < 6 && chain(p[1], b, length + 1))) {
                    return true;
                }
            }
            return false;
        }

        private List<List<Integer>> orders() {
            List<List<Integer>> all = new ArrayList<>();
            collect(new ArrayList<>(), all);
            return all;
        }

        private void collect(List<Integer> start, List<List<Integer>> all) {
            if (start.size() == defaults.size()) {
                all.add(new ArrayList<>(start));
            }
            for (int d = 0; d < defaults.size(); d++) {
                if (!start.contains(d)) {
                    start.add(d);
                    collect(start, all);
                    start.remove(start.size() - 1);
                }
            }
        }

        private boolean respected(List<Integer> order) {
            for (int[] p : preferences) {
                if (order.indexOf(p[0]) > order.indexOf(p[1])) {
                    return false;
                }
            }
            return true;
        }

        private int go(List<Integer> order, List<Integer> done) {
            int s = close(factSet());
            boolean moved = true;
            while (moved) {
                moved = false;
                for (int d : order) {
                    int[] rule = defaults.get(d);
                    if ((s & rule[0]) == rule[0] && open(d, s) && (s & 1 << rule[2]) == 0) {
                        s = close(s | 1 << rule[2]);
                        done.add(d);
                        moved = true;
                        break;
                    }
                }
            }
            return s;
        }

        private List<Integer> extensionList() {
            if (extensions == null) {
                extensions = new ArrayList<>();
                for (int e = 0; e <= ALL; e++) {
                    // A closure contradicts itself only if it is the set of all literals.
                    boolean possible = (e & e >> 8) == 0 || e == ALL;
                    if (possible && (e & factSet()) == factSet() && isExt(e)) {
                        extensions.add(e);
                    }
                }
            }
            return extensions;
        }

        private List<Integer> preferredList() {
            if (preferred == null) {
                TreeSet<Integer> ends = new TreeSet<>();
                for (List<Integer> order : orders()) {
                    if (respected(order)) {
                        ends.add(go(order, new ArrayList<>()));
                    }
                }
                ends.retainAll(extensionList());
                preferred = new ArrayList<>(ends);
            }
            return preferred;
        }

        private void theoryChanged() {
            extensions = null;
            preferred = null;
        }

        private static int meet(List<Integer> sets) {
            int all = ALL;
            for (int s : sets) {
                all &= s;
            }
            return all;
        }

        private static int holding(List<Integer> sets, int literal) {
            int count = 0;
            for (int s : sets) {
                count += s >> literal & 1;
            }
            return count;
        }

        private long checksum() {
            List<Integer> numbers = new ArrayList<>();
            numbers.add(factSet());
            numbers.add(rules.size());
            rules.forEach(r -> numbers.addAll(List.of(r[0], r[1])));
            numbers.add(defaults.size());
            defaults.forEach(r -> numbers.addAll(List.of(r[0], r[1], r[2])));
            for (int a = 0; a < defaults.size(); a++) {
                for (int b = 0; b < defaults.size(); b++) {
                    numbers.add(before(a, b) ? 1 : 0);
                }
            }
            numbers.add(applied.size());
            numbers.addAll(applied);
            long d = 113;
            for (int x : numbers) {
                d = d * 31 + x;
            }
            return d;
        }

        private boolean isDefault(int d) {
            return 0 <= d && d < defaults.size();
        }

        private static boolean isLiteral(int l) {
            return 0 <= l && l <= 15;
        }

        private static boolean isSet(int s) {
            return 0 <= s && s <= ALL;
        }

        /** The answer that is due, as a text. */
        private String due(int kind, int a, int b, int c, boolean yes) {
            return kind < 9 ? change(kind, a, b, c, yes) : ask(kind, a, b, yes);
        }

        private String change(int kind, int a, int b, int c, boolean yes) {
            switch (kind) {
                case 0: {
                    if (!isLiteral(a)) return "index";
                    String was = "" + fact[a];
                    fact[a] = yes;
                    theoryChanged();
                    return was;
                }
                case 1:
                    if (!isLiteral(b)) return "index";
                    if (!isSet(a)) return "argument";
                    if (rules.size() == 16) return "state";
                    rules.add(new int[] {a, b});
                    theoryChanged();
                    return "" + (rules.size() - 1);
                case 2:
                    if (!isLiteral(c)) return "index";
                    if (!isSet(a) || !isSet(b)) return "argument";
                    if (defaults.size() == 6) return "state";
                    defaults.add(new int[] {a, b, c});
                    theoryChanged();
                    return "" + (defaults.size() - 1);
                case 3:
                    if (rules.isEmpty()) return "state";
                    rules.remove(rules.size() - 1);
                    theoryChanged();
                    return "" + rules.size();
                case 4: {
                    if (defaults.isEmpty()) return "state";
                    int last = defaults.size() - 1;
                    defaults.remove(last);
                    preferences.removeIf(p -> p[0] == last || p[1] == last);
                    theoryChanged();
                    return "" + last;
                }
                case 5: {
                    if (!isDefault(a) || !isDefault(b)) return "index";
                    if (a == b || before(b, a)) return "argument";
                    String came = "" + before(a, b);
                    preferences.add(new int[] {a, b});
                    preferred = null;
                    return came;
                }
                case 6: {
                    int pairs = 0;
                    for (int i = 0; i < 36; i++) {
                        pairs += before(i / 6, i % 6) ? 1 : 0;
                    }
                    preferences.clear();
                    preferred = null;
                    return "" + pairs;
                }
                default: {
                    List<List<Integer>> all = orders();
                    if (a < 0 || a >= all.size()) return "argument";
                    applied = new ArrayList<>();
                    return "" + go(all.get(a), applied);
                }
            }
        }

        private String ask(int kind, int a, int b, boolean yes) {
            switch (kind) {
                case 9: return !isDefault(a) || !isDefault(b) ? "index" : "" + before(a, b);
                case 10: return "" + factSet();
                case 11: return "" + defaults.size();
                case 12: return !isSet(a) ? "argument" : "" + close(a);
                case 13: return !isDefault(b) ? "index" : !isSet(a) ? "argument" : "" + open(b, a);
                case 14: return !isSet(a) ? "argument" : "" + generators(a);
                case 15: return !isSet(a) ? "argument" : "" + isExt(a);
                case 16: return "" + extensionList().size();
                case 17: return a < 0 || a >= extensionList().size() ? "index" : "" + extensionList().get(a);
                case 18: return a < 0 || a >= extensionList().size() ? "index"
                        : "" + preferredList().contains(extensionList().get(a));
                case 19: return "" + preferredList().size();
                case 20: return !isLiteral(a) ? "index" : "" + holding(extensionList(), a);
                case 21: return "" + meet(yes ? preferredList() : extensionList());
                case 22: return !isLiteral(a) ? "index" : preferredList().isEmpty() ? "0.0"
                        : "" + (double) holding(preferredList(), a) / preferredList().size();
                case 23: return "" + applied.size();
                case 24: return a < 0 || a >= applied.size() ? "index" : "" + applied.get(a);
                case 25: {
                    List<List<Integer>> all = orders();
                    return a < 0 || a >= all.size() ? "argument" : "" + respected(all.get(a));
                }
                default: return "" + checksum();
            }
        }
    }

    /** The class's answer to the same call. */
    private static String answer(DefaultReasoner x, int kind, int a, int b, int c, boolean yes) {
        try {
            switch (kind) {
                case 0: return "" + x.setFact(a, yes);
                case 1: return "" + x.addRule(a, b);
                case 2: return "" + x.addDefault(a, b, c);
                case 3: return "" + x.dropRule();
                case 4: return "" + x.dropDefault();
                case 5: return "" + x.prefer(a, b);
                case 6: return "" + x.forgetPriorities();
                case 7: case 8: return "" + x.walk(a);
                case 9: return "" + x.isBefore(a, b);
                case 10: return "" + x.facts();
                case 11: return "" + x.defaultCount();
                case 12: return "" + x.closure(a);
                case 13: return "" + x.isOpen(b, a);
                case 14: return "" + x.generatorsOf(a);
                case 15: return "" + x.isExtension(a);
                case 16: return "" + x.extensionCount();
                case 17: return "" + x.extension(a);
                case 18: return "" + x.isPreferred(a);
                case 19: return "" + x.preferredCount();
                case 20: return "" + x.supports(a);
                case 21: return "" + x.common(yes);
                case 22: return "" + x.share(a);
                case 23: return "" + x.appliedCount();
                case 24: return "" + x.applied(a);
                case 25: return "" + x.respects(a);
                default: return "" + x.digest();
            }
        } catch (RuntimeException e) {
            return e.getClass() == IndexOutOfBoundsException.class ? "index"
                    : e.getClass() == IllegalArgumentException.class ? "argument"
                    : e.getClass() == IllegalStateException.class ? "state" : e.toString();
        }
    }

    /** Chooses calls and their arguments; few atoms, so that defaults meet one another. */
    private static final class Chooser {
        private final Random random;
        private final int atoms;
        private final int calm;

        private Chooser(int seed) {
            random = new Random(seed);
            atoms = 2 + random.nextInt(7);
            calm = 1 + random.nextInt(6);
        }

        private boolean seldom() {
            return random.nextInt(40) == 0;
        }

        private int odd() {
            int[] odd = {-1, 16, 65536, 720, 6, Integer.MIN_VALUE, Integer.MAX_VALUE, random.nextInt()};
            return odd[random.nextInt(odd.length)];
        }

        private int literal() {
            return seldom() ? odd() : random.nextInt(atoms) + 8 * random.nextInt(2);
        }

        private int set(int most) {
            if (seldom()) {
                return odd();
            }
            int sum = 0;
            for (int i = random.nextInt(most + 1); i > 0; i--) {
                sum |= 1 << random.nextInt(atoms) + 8 * random.nextInt(2);
            }
            return sum;
        }

        /** Changes of the theory are rarer in calm runs, so that much is asked between them. */
        private int kind(Model model) {
            if (model.defaults.size() < 2 + calm / 2 && random.nextInt(3) == 0) {
                return 2;
            }
            if (random.nextInt(calm) == 0) {
                int[] changes = {0, 1, 2, 2, 3, 4, 5, 5, 5, 6, 7, 8};
                return changes[random.nextInt(changes.length)];
            }
            return 7 + random.nextInt(20);
        }

        private int first(int kind, Model model) {
            int n = model.defaults.size();
            int[] orders = {1, 1, 2, 6, 24, 120, 720};
            switch (kind) {
                case 0: case 20: case 22: return literal();
                case 1: case 2: return set(2);
                case 5: case 9: return seldom() ? odd() : random.nextInt(n + 1) - (seldom() ? 1 : 0);
                case 7: case 8: case 25: return seldom() ? odd() : random.nextInt(orders[n] + 1);
                case 12: case 13: return set(4);
                case 14: case 15: return someSet(model);
                case 17: case 18: return seldom() ? odd() : random.nextInt(model.extensionList().size() + 1);
                case 24: return seldom() ? odd() : random.nextInt(model.applied.size() + 1);
                default: return 0;
            }
        }

        private int someSet(Model model) {
            List<Integer> found = model.extensionList();
            if (found.isEmpty() || random.nextInt(3) == 0) {
                return set(5);
            }
            int e = found.get(random.nextInt(found.size()));
            return random.nextInt(3) == 0 ? e ^ 1 << random.nextInt(16) : e;
        }

        private int second(int kind, Model model) {
            switch (kind) {
                case 1: return literal();
                case 2: return set(2);
                default: return seldom() ? odd() : random.nextInt(model.defaults.size() + 1);
            }
        }
    }

    private static void run(int seed, int[] met) {
        Chooser chooser = new Chooser(seed);
        Model model = new Model();
        DefaultReasoner x = new DefaultReasoner();
        for (int call = 0; call < CALLS && wrong < 20; call++) {
            int kind = chooser.kind(model);
            int a = chooser.first(kind, model);
            int b = chooser.second(kind, model);
            int c = chooser.literal();
            // Many defaults are normal ones, which conclude what they want to be possible.
            if (kind == 2 && 0 <= c && c < 16 && chooser.random.nextBoolean()) {
                b = 1 << c;
            }
            boolean yes = chooser.random.nextBoolean();
            String due = model.due(kind, a, b, c, yes);
            String got = answer(x, kind, a, b, c, yes);
            met[kind]++;
            if (!got.equals(due)) {
                wrong++;
                System.out.println("run " + seed + ", call " + call + " of kind " + kind + " ("
                        + a + ", " + b + ", " + c + ", " + yes + ") answered " + got + ", due is " + due);
            }
        }
    }

    public static void main(String[] args) {
        int[] met = new int[27];
        for (int seed = 0; seed < RUNS && wrong < 20; seed++) {
            run(seed, met);
        }
        for (int kind = 0; kind < met.length; kind++) {
            if (met[kind] == 0 && wrong == 0) {
                wrong++;
                System.out.println("no call of kind " + kind + " was made");
            }
        }
        System.out.println(RUNS + " runs of " + CALLS + " calls, " + wrong + " wrong answers");
        if (wrong != 0) {
            System.exit(1);
        }
    }
}
