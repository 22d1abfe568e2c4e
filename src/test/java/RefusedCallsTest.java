import java.util.Arrays;

/**
 * "A call with a WHAT, HOW, STRING, GUARD, MODE, or another number, that is none is refused: it answers NONE, or
 * false, and does nothing. (The FORK is taken for a STRING only where it is told.)"
 *
 * Each argument of each method in turn is one that is none, then all of them at once. Each call is made on a bench
 * where everything that can be told of it has been changed; a twin, to which the same was done but for the refused
 * call, tells what the bench must answer afterwards.
 */
public final class RefusedCallsTest {
    // Beside the nearest ones: those that a narrower type, a mask or a change of sign would take for right ones.
    private static final int[] FAR = {
        -2, -31, -32, -33, 64, 256, 257, 65536, 65537, 1 << 30, Integer.MIN_VALUE, Integer.MIN_VALUE + 1,
        Integer.MAX_VALUE, Integer.MAX_VALUE - 1,
    };
    private static final int[] NEAR_NO_WHATS = {-1, 2, 3};
    private static final int[] NEAR_NO_HOWS = {-1, 6, 7};
    private static final int[] NEAR_NO_STRINGS = {-1, 32, 33};
    private static final int[] NEAR_NO_STRINGS_NOR_FORK = {-1, 33, 34};
    private static final int[] NEAR_NO_SORTS = {-1, 5, 6};
    private static final int[] NEAR_NO_QUARTERS = {-40001, 40001, -40002, 40002, 40003, 40004, 160000, -160000};
    private static final int[] FAR_QUARTERS = {
        -65536, 65536, 65537, Integer.MIN_VALUE, Integer.MIN_VALUE + 1, Integer.MAX_VALUE,
    };
    private static final int[] NEAR_NO_GUARDS = {-1, 8, 9};
    private static final int[] NEAR_NO_MODES = {-1, 3, 4};
    private static final int[] NEAR_NO_COUNTS = {-1, 4, 5};

    private static final Due due = new Due();

    /** One method, with arguments that it takes, and for each argument those that are none. */
    private enum Method {
        PUT(false, 0, new int[] {0, 3, 0, 9}, noWhats(), noStringsNorFork(), noSorts(), noQuarters()),
        SORT(false, -1, new int[] {1, 3}, noWhats(), noStringsNorFork()),
        QUARTERS(false, 0, new int[] {1, 3}, noWhats(), noStringsNorFork()),
        HOLDS(false, -1, new int[] {0, 4, 3, 5}, noWhats(), noHows(), noStringsNorFork(), noStringsNorFork()),
        DENIES(false, -1, new int[] {0, 4, 3, 5}, noWhats(), noHows(), noStringsNorFork(), noStringsNorFork()),
        PICK(false, -1, new int[] {0, 5, 3, 5}, noWhats(), noHows(), noStringsNorFork(), noStringsNorFork()),
        CLIMB(false, -1, new int[] {0, 5, 0}, noWhats(), noHows(), noStrings()),
        FIRST(false, -1, new int[] {0, 5, 0}, noWhats(), noHows(), noStrings()),
        FIRST_NOT(true, -1, new int[] {0, 4, 0}, noWhats(), noHows(), noStrings()),
        BEST(false, -1, new int[] {1, 5}, noWhats(), noHows()),
        BEST_NOT(true, -1, new int[] {1, 4}, noWhats(), noHows()),
        PASS(false, -1, new int[] {0, 4, 2, 30}, noWhats(), noHows(), noStrings(), noStrings()),
        WITHIN(false, -1, new int[] {0, 4, 3, 5}, noWhats(), noStrings(), noStringsNorFork(), noStringsNorFork()),
        GUARD(false, 0, new int[] {2, 0, 4, 5, 1}, noGuards(), noWhats(), noHows(), noStrings(), noModes()),
        RINGS(false, -1, new int[] {2}, noGuards()),
        STRIKE(false, 0, new int[] {3}, noStrings()),
        COUNT(false, -1, new int[] {3}, noCounts());

        final boolean isNot;
        final int refusal;
        final int[] taken;
        final int[][] none;

        Method(boolean isNot, int refusal, int[] taken, int[]... none) {
            this.isNot = isNot;
            this.refusal = refusal;
            this.taken = taken;
            this.none = none;
        }

        int call(TunerBench x, int[] a) {
            return switch (this) {
                case PUT -> x.put(a[0], a[1], a[2], a[3]) ? 1 : 0;
                case SORT -> x.sort(a[0], a[1]);
                case QUARTERS -> x.quarters(a[0], a[1]);
                case HOLDS -> x.holds(a[0], a[1], a[2], a[3]);
                case DENIES -> x.denies(a[0], a[1], a[2], a[3]);
                case PICK -> x.pick(a[0], a[1], a[2], a[3]);
                case CLIMB -> x.climb(a[0], a[1], a[2]);
                case FIRST, FIRST_NOT -> x.first(a[0], a[1], a[2], isNot);
                case BEST, BEST_NOT -> x.best(a[0], a[1], isNot);
                case PASS -> x.pass(a[0], a[1], a[2], a[3]);
                case WITHIN -> x.within(a[0], a[1], a[2], a[3]);
                case GUARD -> x.guard(a[0], a[1], a[2], a[3], a[4]) ? 1 : 0;
                case RINGS -> x.rings(a[0]);
                case STRIKE -> x.strike(a[0]) ? 1 : 0;
                case COUNT -> x.count(a[0]);
            };
        }

        String text(int[] a) {
            return name().toLowerCase() + Arrays.toString(a);
        }
    }

    public static void main(String[] args) {
        for (Method method : Method.values()) {
            takesItsOwn(method);
            refusesEachAlone(method);
            refusesAllAtOnce(method);
        }
        refusesRowsThatRunBackwards();
        refusesOnANewObject();
        due.end();
    }

    /** Without this, a method that refuses all would pass as one that refuses what it must. */
    private static void takesItsOwn(Method method) {
        int got = method.call(usedBench(), method.taken);
        due.is(method.text(method.taken) + " is refused", got == method.refusal, false);
    }

    private static void refusesEachAlone(Method method) {
        for (int k = 0; k < method.none.length; k++) {
            for (int n : method.none[k]) {
                int[] a = method.taken.clone();
                a[k] = n;
                refused(method, a);
            }
        }
    }

    private static void refusesAllAtOnce(Method method) {
        for (int n : FAR) {
            int[] a = method.taken.clone();
            Arrays.fill(a, n);
            refused(method, a);
        }
    }

    /** Promise 11: "(NONE also if s is above t.)" */
    private static void refusesRowsThatRunBackwards() {
        for (int s = 1; s < 32; s++) {
            refused(Method.PASS, new int[] {0, 4, s, s - 1});
            refused(Method.PASS, new int[] {1, 0, s, 0});
        }
    }

    private static void refusesOnANewObject() {
        for (Method method : Method.values()) {
            for (int n : FAR) {
                int[] a = method.taken.clone();
                Arrays.fill(a, n);
                TunerBench x = new TunerBench();
                due.is("new: " + method.text(a), method.call(x, a), method.refusal);
                sameAnswers("new, after " + method.text(a), x, new TunerBench());
            }
        }
    }

    private static void refused(Method method, int[] a) {
        TunerBench x = usedBench();
        due.is(method.text(a), method.call(x, a), method.refusal);
        sameAnswers("after " + method.text(a), x, usedBench());
    }

    /** Every VALUE another one than its neighbours', five GUARDS set and looked, every count above 0. */
    private static TunerBench usedBench() {
        TunerBench x = new TunerBench();
        for (int s = 0; s <= 32; s++) {
            x.put(0, s, s % 7 == 6 ? s % 4 + 1 : 0, 100 - s);
            x.put(1, s, s % 5 == 4 ? s % 4 + 1 : 0, s * s - 300);
        }
        for (int g = 1; g <= 5; g++) {
            x.guard(g, g % 2, g, 3 * g, g % 3);
        }
        x.look();
        x.strike(9);
        x.look();
        x.denies(0, 4, 0, 1);
        x.denies(1, 4, 0, 1);
        x.pass(1, 2, 10, 20);
        x.holds(0, 5, 0, 1);
        return x;
    }

    private static void sameAnswers(String at, TunerBench x, TunerBench twin) {
        for (int what = 0; what < 2; what++) {
            for (int s = 0; s <= 32; s++) {
                due.is(at + ": sort(" + what + ", " + s + ")", x.sort(what, s), twin.sort(what, s));
                due.is(at + ": quarters(" + what + ", " + s + ")", x.quarters(what, s), twin.quarters(what, s));
            }
        }
        for (int which = 0; which < 4; which++) {
            due.is(at + ": count(" + which + ")", x.count(which), twin.count(which));
        }
        sameRings(at, x, twin);
        // Several looks: a GUARD's copy, its HOW, its MODE and its latest look can be seen in no other way.
        for (int s = 0; s < 32; s += 3) {
            due.is(at + ": look()", x.look(), twin.look());
            x.strike(s);
            twin.strike(s);
        }
        sameRings(at + " and looks", x, twin);
    }

    private static void sameRings(String at, TunerBench x, TunerBench twin) {
        for (int g = 0; g < 8; g++) {
            due.is(at + ": rings(" + g + ")", x.rings(g), twin.rings(g));
        }
    }

    private static int[] joined(int[] near, int[] far) {
        int[] all = Arrays.copyOf(near, near.length + far.length);
        System.arraycopy(far, 0, all, near.length, far.length);
        return all;
    }

    private static int[] noWhats() {
        return joined(NEAR_NO_WHATS, FAR);
    }

    private static int[] noHows() {
        return joined(NEAR_NO_HOWS, FAR);
    }

    private static int[] noStrings() {
        return joined(NEAR_NO_STRINGS, FAR);
    }

    private static int[] noStringsNorFork() {
        return joined(NEAR_NO_STRINGS_NOR_FORK, FAR);
    }

    private static int[] noSorts() {
        return joined(NEAR_NO_SORTS, FAR);
    }

    private static int[] noQuarters() {
        return joined(NEAR_NO_QUARTERS, FAR_QUARTERS);
    }

    private static int[] noGuards() {
        return joined(NEAR_NO_GUARDS, FAR);
    }

    private static int[] noModes() {
        return joined(NEAR_NO_MODES, FAR);
    }

    private static int[] noCounts() {
        return joined(NEAR_NO_COUNTS, FAR);
    }
}
