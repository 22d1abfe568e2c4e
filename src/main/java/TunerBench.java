import java.util.Arrays;

/** A piano tuner's bench; README.md says how it is used. */
public final class TunerBench {
    public static final int NONE = -1;

    private static final int WHATS = 2;
    private static final int STRINGS = 32;
    private static final int FORK = 32;
    private static final int GUARDS = 8;

    private static final int BELOW = 0;
    private static final int AT_MOST = 1;
    private static final int ABOVE = 2;
    private static final int AT_LEAST = 3;
    private static final int EQUAL = 4;
    private static final int UNEQUAL = 5;

    private static final int SORT_QUARTERS = 0;
    private static final int SORT_NO_VALUE = 1;
    private static final int SORT_MINUS_NOUGHT = 2;
    private static final int SORT_ABOVE_ALL = 3;
    private static final int SORT_BELOW_ALL = 4;

    private static final int MODE_STANDS = 0;
    private static final int MODE_STANDS_NOT = 1;
    private static final int MODE_CHANGES = 2;

    // A VALUE is one int, so that it is copied and changes places whole: QUARTERS are
    // themselves, ABOVE ALL and BELOW ALL lie where plain comparing puts them, and the
    // other two are marks that never reach a comparison by size.
    private static final int MOST_QUARTERS = 40000;
    private static final int ABOVE_ALL = MOST_QUARTERS + 1;
    private static final int BELOW_ALL = -MOST_QUARTERS - 1;
    private static final int MINUS_NOUGHT = MOST_QUARTERS + 2;
    private static final int NO_VALUE = MOST_QUARTERS + 3;

    private final int[][] values = new int[WHATS][STRINGS + 1];
    private final Guard[] guards = new Guard[GUARDS];
    private int denials = 0;
    private int latestTruth = NONE;
    private int changes = 0;

    public TunerBench() {
        for (int what = 0; what < WHATS; what++) {
            Arrays.fill(values[what], NO_VALUE);
        }
    }

    public boolean put(int what, int s, int sort, int q) {
        if (!isWhat(what) || !isStringOrFork(s) || !isValue(sort, q)) {
            return false;
        }
        values[what][s] = valueOf(sort, q);
        return true;
    }

    public int sort(int what, int s) {
        if (!isWhat(what) || !isStringOrFork(s)) {
            return NONE;
        }
        return sortOf(values[what][s]);
    }

    public int quarters(int what, int s) {
        // The promise names 0, not NONE, for what there is none of: -1 would be QUARTERS.
        if (!isWhat(what) || !isStringOrFork(s)) {
            return 0;
        }
        int value = values[what][s];
        return sortOf(value) == SORT_QUARTERS ? value : 0;
    }

    public int holds(int what, int how, int s, int t) {
        if (!isQuestion(what, how) || !isStringOrFork(s) || !isStringOrFork(t)) {
            return NONE;
        }
        latestTruth = stands(what, how, s, t) ? 1 : 0;
        return latestTruth;
    }

    public int denies(int what, int how, int s, int t) {
        if (!isQuestion(what, how) || !isStringOrFork(s) || !isStringOrFork(t)) {
            return NONE;
        }
        if (stands(what, how, s, t)) {
            return 0;
        }
        denials++;
        return 1;
    }

    public int pick(int what, int how, int s, int t) {
        if (!isQuestion(what, how) || !isStringOrFork(s) || !isStringOrFork(t)) {
            return NONE;
        }
        return stands(what, how, s, t) ? s : t;
    }

    public int climb(int what, int how, int s) {
        if (!isQuestion(what, how) || !isString(s)) {
            return NONE;
        }
        int at = s;
        while (at < STRINGS - 1 && stands(what, how, at, at + 1)) {
            at++;
        }
        return at;
    }

    public int first(int what, int how, int s, boolean isNot) {
        if (!isQuestion(what, how) || !isString(s)) {
            return NONE;
        }
        for (int k = s; k < STRINGS; k++) {
            if (stands(what, how, k, FORK) != isNot) {
                return k;
            }
        }
        return NONE;
    }

    public int best(int what, int how, boolean isNot) {
        if (!isQuestion(what, how)) {
            return NONE;
        }
        int left = 0;
        for (int k = 1; k < STRINGS; k++) {
            if (stands(what, how, k, left) != isNot) {
                left = k;
            }
        }
        return left;
    }

    public int pass(int what, int how, int s, int t) {
        if (!isQuestion(what, how) || !isString(s) || !isString(t) || s > t) {
            return NONE;
        }
        int changed = 0;
        for (int k = s; k < t; k++) {
            if (!stands(what, how, k, k + 1)) {
                changeWithNext(what, k);
                changed++;
            }
        }
        changes += changed;
        return changed;
    }

    public int within(int what, int s, int low, int high) {
        if (!isWhat(what) || !isString(s) || !isStringOrFork(low) || !isStringOrFork(high)) {
            return NONE;
        }
        // Each part is asked on its own: with NONE about, none follows from another.
        int sum = 0;
        if (stands(what, AT_LEAST, s, low) && stands(what, AT_MOST, s, high)) {
            sum += 1;
        }
        if (!stands(what, BELOW, s, low) && !stands(what, ABOVE, s, high)) {
            sum += 2;
        }
        if (stands(what, BELOW, s, low) || stands(what, ABOVE, s, high)) {
            sum += 4;
        }
        if (stands(what, UNEQUAL, s, s)) {
            sum += 8;
        }
        return sum;
    }

    public boolean guard(int g, int what, int how, int s, int mode) {
        if (!isGuard(g) || !isQuestion(what, how) || !isString(s) || !isMode(mode)) {
            return false;
        }
        guards[g] = new Guard(what, how, values[what][s], mode);
        return true;
    }

    public int look() {
        int sum = 0;
        for (int g = 0; g < GUARDS; g++) {
            Guard one = guards[g];
            if (one != null && ringsNow(one)) {
                sum += 1 << g;
            }
        }
        return sum;
    }

    public int rings(int g) {
        if (!isGuard(g)) {
            return NONE;
        }
        Guard one = guards[g];
        return one == null ? NONE : one.rang;
    }

    public boolean strike(int s) {
        if (!isString(s)) {
            return false;
        }
        for (int what = 0; what < WHATS; what++) {
            values[what][FORK] = values[what][s];
        }
        return true;
    }

    public int count(int which) {
        switch (which) {
            case 0:
                return denials;
            case 1:
                return latestTruth;
            case 2:
                return guardsSet();
            case 3:
                return changes;
            default:
                return NONE;
        }
    }

    private static boolean isWhat(int what) {
        return what >= 0 && what < WHATS;
    }

    private static boolean isHow(int how) {
        return how >= BELOW && how <= UNEQUAL;
    }

    private static boolean isQuestion(int what, int how) {
        return isWhat(what) && isHow(how);
    }

    private static boolean isString(int s) {
        return s >= 0 && s < STRINGS;
    }

    private static boolean isStringOrFork(int s) {
        return isString(s) || s == FORK;
    }

    private static boolean isGuard(int g) {
        return g >= 0 && g < GUARDS;
    }

    private static boolean isMode(int mode) {
        return mode >= MODE_STANDS && mode <= MODE_CHANGES;
    }

    private static boolean isValue(int sort, int q) {
        if (sort == SORT_QUARTERS) {
            return q >= -MOST_QUARTERS && q <= MOST_QUARTERS;
        }
        return sort >= SORT_NO_VALUE && sort <= SORT_BELOW_ALL;
    }

    private static int valueOf(int sort, int q) {
        switch (sort) {
            case SORT_QUARTERS:
                return q;
            case SORT_MINUS_NOUGHT:
                return MINUS_NOUGHT;
            case SORT_ABOVE_ALL:
                return ABOVE_ALL;
            case SORT_BELOW_ALL:
                return BELOW_ALL;
            default:
                return NO_VALUE;
        }
    }

    private static int sortOf(int value) {
        switch (value) {
            case NO_VALUE:
                return SORT_NO_VALUE;
            case MINUS_NOUGHT:
                return SORT_MINUS_NOUGHT;
            case ABOVE_ALL:
                return SORT_ABOVE_ALL;
            case BELOW_ALL:
                return SORT_BELOW_ALL;
            default:
                return SORT_QUARTERS;
        }
    }

    private static int sizeOf(int value) {
        return value == MINUS_NOUGHT ? 0 : value;
    }

    private boolean stands(int what, int how, int s, int t) {
        return valueStands(how, values[what][s], values[what][t]);
    }

    private static boolean valueStands(int how, int value, int other) {
        if (value == NO_VALUE || other == NO_VALUE) {
            return how == UNEQUAL;
        }
        return sizeStands(how, sizeOf(value), sizeOf(other));
    }

    private static boolean sizeStands(int how, int size, int other) {
        switch (how) {
            case BELOW:
                return size < other;
            case AT_MOST:
                return size <= other;
            case ABOVE:
                return size > other;
            case AT_LEAST:
                return size >= other;
            case EQUAL:
                return size == other;
            default:
                return size != other;
        }
    }

    private void changeWithNext(int what, int k) {
        int[] row = values[what];
        int kept = row[k];
        row[k] = row[k + 1];
        row[k + 1] = kept;
    }

    private boolean ringsNow(Guard one) {
        boolean standsNow = valueStands(one.how, values[one.what][FORK], one.copy);
        boolean isRinging = isRung(one.mode, standsNow, one.stood);
        one.stood = standsNow;
        if (isRinging) {
            one.rang++;
        }
        return isRinging;
    }

    private static boolean isRung(int mode, boolean standsNow, boolean stood) {
        switch (mode) {
            case MODE_STANDS:
                return standsNow;
            case MODE_STANDS_NOT:
                return !standsNow;
            default:
                return standsNow != stood;
        }
    }

    private int guardsSet() {
        int set = 0;
        for (int g = 0; g < GUARDS; g++) {
            if (guards[g] != null) {
                set++;
            }
        }
        return set;
    }

    private static final class Guard {
        private final int what;
        private final int how;
        private final int copy;
        private final int mode;
        private boolean stood = false;
        private int rang = 0;

        private Guard(int what, int how, int copy, int mode) {
            this.what = what;
            this.how = how;
            this.copy = copy;
            this.mode = mode;
        }
    }
}
