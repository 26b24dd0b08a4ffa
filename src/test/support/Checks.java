/** What the tests have in common: answers held against those due, refused calls, small theories. */
class Checks {
    static final int ALL = 65535;
    static final Class<?> INDEX = IndexOutOfBoundsException.class;
    static final Class<?> ARGUMENT = IllegalArgumentException.class;
    static final Class<?> STATE = IllegalStateException.class;

    private static String place = "";
    private static int checks = 0;
    private static int wrong = 0;

    interface Call {
        void run();
    }

    /** A call on an object that the caller did not make itself. */
    interface Act {
        Object on(DefaultReasoner x);
    }

    interface Maker {
        DefaultReasoner make();
    }

    /** Names the place of the document that the next checks belong to. */
    static void at(String newPlace) {
        place = newPlace;
    }

    static int wrongSoFar() {
        return wrong;
    }

    static void fault(String what) {
        wrong++;
        System.out.println(place + ": " + what);
    }

    static void is(String what, Object got, Object want) {
        checks++;
        if (!got.equals(want)) {
            fault(what + " answered " + got + ", due is " + want);
        }
    }

    static void end() {
        System.out.println(checks + " checks, " + wrong + " wrong");
        if (wrong != 0) {
            System.exit(1);
        }
    }

    /** The answer as a text, or the exception's own class. */
    static String answer(DefaultReasoner x, Act act) {
        try {
            return String.valueOf(act.on(x));
        } catch (RuntimeException e) {
            return "throws " + e.getClass().getSimpleName();
        }
    }

    static void throwsJust(DefaultReasoner x, String what, Class<?> want, Act act) {
        is(what, answer(x, act), "throws " + want.getSimpleName());
    }

    /** The call throws just that class of exception, and changes nothing that can be seen. */
    static void refused(DefaultReasoner x, String what, Class<?> want, Call call) {
        String before = seen(x);
        throwsJust(x, what, want, same -> {
            call.run();
            return "nothing";
        });
        is("what is seen after " + what, seen(x), before);
    }

    /**
     * The call throws just that class of exception; and the object, used on until all is dropped
     * again, answers as a twin to which the call was never made. The call comes once before
     * anything was asked, and once after, because the object may keep what it found out.
     */
    static void refusedAsNew(Maker maker, String what, Class<?> want, Act act) {
        DefaultReasoner fresh = maker.make();
        throwsJust(fresh, what, want, act);
        is("what follows " + what, laterLife(fresh), laterLife(maker.make()));
        DefaultReasoner asked = maker.make();
        DefaultReasoner twin = maker.make();
        is("what is seen of a twin", seen(asked), seen(twin));
        throwsJust(asked, what + ", asked before,", want, act);
        is("what follows " + what + ", asked before", laterLife(asked), laterLife(twin));
    }

    static String seen(DefaultReasoner x) {
        StringBuilder text = new StringBuilder();
        text.append(x.digest()).append(' ').append(x.facts()).append(' ').append(x.defaultCount());
        for (int i = 0; i < x.extensionCount(); i++) {
            text.append(' ').append(x.extension(i)).append(x.isPreferred(i));
        }
        for (int i = 0; i < x.appliedCount(); i++) {
            text.append(" a").append(x.applied(i));
        }
        return text.toString();
    }

    /** Changes the object step by step; what it answers tells of all that it had kept. */
    private static String laterLife(DefaultReasoner x) {
        StringBuilder text = new StringBuilder(seen(x));
        for (int i = 0; i < 7; i++) {
            text.append(' ').append(answer(x, DefaultReasoner::dropDefault)).append(' ').append(x.digest());
        }
        for (int i = 0; i < 17; i++) {
            text.append(' ').append(answer(x, DefaultReasoner::dropRule)).append(' ').append(x.digest());
        }
        x.addRule(0, 3);
        x.addDefault(0, 0, 4);
        x.addDefault(0, 0, 5);
        return text.append(' ').append(seen(x)).append(' ').append(x.walk(1)).append(seen(x)).toString();
    }

    /** The set of these literals. */
    static int set(int... literals) {
        int sum = 0;
        for (int literal : literals) {
            sum |= 1 << literal;
        }
        return sum;
    }

    static long digestOf(long... numbers) {
        long d = 113;
        for (long x : numbers) {
            d = d * 31 + x;
        }
        return d;
    }

    /** So many defaults without prerequisite or justification, that conclude 0, 1, 2 and so on. */
    static DefaultReasoner plain(int defaults) {
        DefaultReasoner x = new DefaultReasoner();
        for (int i = 0; i < defaults; i++) {
            x.addDefault(0, 0, i);
        }
        return x;
    }

    /** Birds (0) fly (1); penguins (2) are birds and by default do not fly; Tweety is a penguin. */
    static DefaultReasoner tweety() {
        DefaultReasoner x = new DefaultReasoner();
        x.setFact(2, true);
        x.addRule(set(2), 0);
        x.addDefault(set(0), set(1), 1);
        x.addDefault(set(2), set(9), 9);
        return x;
    }

    /** One default whose conclusion speaks against itself: there is no extension. */
    static DefaultReasoner hopeless() {
        DefaultReasoner x = new DefaultReasoner();
        x.addDefault(0, set(0), 8);
        return x;
    }

    /** Its one extension is where the walk 1, 0 ends; 0 is preferred, so no walk that counts does. */
    static DefaultReasoner unpreferred() {
        DefaultReasoner x = new DefaultReasoner();
        x.addDefault(0, set(0), 1);
        x.addDefault(0, 0, 8);
        x.prefer(0, 1);
        return x;
    }

    /** Something of all: facts, rules, four defaults, a chain and a way beside it, and a walk. */
    static DefaultReasoner busy() {
        return busyOn(new DefaultReasoner());
    }

    /** Makes an empty object busy, in 12 calls. */
    static DefaultReasoner busyOn(DefaultReasoner x) {
        x.setFact(2, true);
        x.setFact(15, true);
        x.addRule(set(2), 0);
        x.addRule(set(9, 15), 4);
        x.addDefault(set(0), set(1), 1);
        x.addDefault(set(2), set(9), 9);
        x.addDefault(set(15), set(3), 3);
        x.addDefault(set(15), set(11), 11);
        x.prefer(1, 0);
        x.prefer(0, 3);
        x.prefer(1, 3);
        x.walk(15);
        return x;
    }

    /** The busy one, with as many rules and defaults as there can be. */
    static DefaultReasoner full() {
        DefaultReasoner x = busy();
        for (int i = 2; i < 16; i++) {
            x.addRule(set(i % 8, 14), 5);
        }
        x.addDefault(0, set(5), 5);
        x.addDefault(0, set(13), 13);
        x.prefer(5, 4);
        x.prefer(3, 5);
        x.walk(500);
        return x;
    }
}
