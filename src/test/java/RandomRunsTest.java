import java.util.Random;

/**
 * All promises: long runs of calls, right and wrong ones mixed, each answered by TunerBench and by a
 * second bench that holds its VALUES as doubles (NONE is NaN), whose comparisons are the document's.
 */
public final class RandomRunsTest {
    private static final int RUNS = 10000;
    // With a count after each one and the 146 readings at the end, a run stays within 512 calls.
    private static final int CALLS = 180;
    private static final int[] FAR = {-1, 33, 34, 64, -32, Integer.MIN_VALUE, Integer.MAX_VALUE};

    private static final Due due = new Due();

    public static void main(String[] args) {
        for (int run = 0; run < RUNS && !due.isAnyWrong(); run++) {
            oneRun(run);
        }
        due.end();
    }

    private static void oneRun(int seed) {
        Random random = new Random(seed);
        TunerBench x = new TunerBench();
        DoubleBench y = new DoubleBench();
        // Some runs stay among few strings and few values, so that ties and NONE come often.
        int strings = seed % 3 == 0 ? 33 : 4;
        for (int k = 0; k < CALLS && !due.isAnyWrong(); k++) {
            oneCall(random, x, y, strings, "seed " + seed + ", call " + k + ": ");
        }
        sameValues(x, y, "seed " + seed + ", at the end: ");
    }

    private static void oneCall(Random random, TunerBench x, DoubleBench y, int strings, String at) {
        int what = number(random, 2);
        int how = number(random, 6);
        int s = string(random, strings);
        int t = string(random, strings);
        int u = string(random, strings);
        int g = number(random, 8);
        int mode = number(random, 3);
        boolean isNot = random.nextBoolean();
        String asked = at + "what " + what + ", how " + how + ", s " + s + ", t " + t + ", u " + u
            + ", g " + g + ", mode " + mode + ", isNot " + isNot;
        switch (random.nextInt(18)) {
            case 0, 1, 2 -> {
                int sort = number(random, 5);
                int q = quarters(random);
                due.is(asked + ": put of " + sort + ", " + q, x.put(what, s, sort, q), y.put(what, s, sort, q));
            }
            case 3 -> due.is(asked + ": sort", x.sort(what, s), y.sort(what, s));
            case 4 -> due.is(asked + ": quarters", x.quarters(what, s), y.quarters(what, s));
            case 5 -> due.is(asked + ": holds", x.holds(what, how, s, t), y.holds(what, how, s, t));
            case 6 -> due.is(asked + ": denies", x.denies(what, how, s, t), y.denies(what, how, s, t));
            case 7 -> due.is(asked + ": pick", x.pick(what, how, s, t), y.pick(what, how, s, t));
            case 8 -> due.is(asked + ": climb", x.climb(what, how, s), y.climb(what, how, s));
            case 9 -> due.is(asked + ": first", x.first(what, how, s, isNot), y.first(what, how, s, isNot));
            case 10 -> due.is(asked + ": best", x.best(what, how, isNot), y.best(what, how, isNot));
            case 11 -> due.is(asked + ": pass", x.pass(what, how, s, t), y.pass(what, how, s, t));
            case 12 -> due.is(asked + ": within", x.within(what, s, t, u), y.within(what, s, t, u));
            case 13 -> due.is(asked + ": guard", x.guard(g, what, how, s, mode), y.guard(g, what, how, s, mode));
            case 14 -> due.is(asked + ": look", x.look(), y.look());
            case 15 -> due.is(asked + ": rings", x.rings(g), y.rings(g));
            case 16 -> due.is(asked + ": strike", x.strike(s), y.strike(s));
            default -> {
                int which = number(random, 4);
                due.is(asked + ": count of " + which, x.count(which), y.count(which));
            }
        }
        due.is(asked + ": count(0) then", x.count(0), y.count(0));
    }

    private static void sameValues(TunerBench x, DoubleBench y, String at) {
        for (int what = 0; what < 2; what++) {
            for (int s = 0; s <= 32; s++) {
                due.is(at + "sort(" + what + ", " + s + ")", x.sort(what, s), y.sort(what, s));
                due.is(at + "quarters(" + what + ", " + s + ")", x.quarters(what, s), y.quarters(what, s));
            }
        }
        for (int which = -1; which <= 4; which++) {
            due.is(at + "count(" + which + ")", x.count(which), y.count(which));
        }
        for (int g = 0; g < 8; g++) {
            due.is(at + "rings(" + g + ")", x.rings(g), y.rings(g));
        }
    }

    private static int number(Random random, int bound) {
        int chance = random.nextInt(60);
        if (chance == 0) {
            return FAR[random.nextInt(FAR.length)];
        }
        return chance == 1 ? bound : random.nextInt(bound);
    }

    private static int string(Random random, int strings) {
        int chance = random.nextInt(20);
        if (chance == 0) {
            return FAR[random.nextInt(FAR.length)];
        }
        if (chance < 3) {
            return 32;
        }
        return chance == 3 ? 31 - random.nextInt(3) : random.nextInt(strings);
    }

    private static int quarters(Random random) {
        switch (random.nextInt(4)) {
            case 0:
                return random.nextInt(80007) - 40003;
            case 1:
                return (40000 - random.nextInt(2) + random.nextInt(3)) * (random.nextBoolean() ? 1 : -1);
            default:
                return random.nextInt(5) - 2;
        }
    }

    private static final class DoubleBench {
        private final double[][] values = new double[2][33];
        private final double[] copies = new double[8];
        private final int[][] guards = new int[8][];
        private final boolean[] did = new boolean[8];
        private final int[] rang = new int[8];
        private int denials;
        private int latest = -1;
        private int changes;

        DoubleBench() {
            for (int s = 0; s <= 32; s++) {
                values[0][s] = Double.NaN;
                values[1][s] = Double.NaN;
            }
        }

        private static boolean in(int n, int last) {
            return 0 <= n && n <= last;
        }

        private static boolean isSo(int how, double a, double b) {
            return switch (how) {
                case 0 -> a < b;
                case 1 -> a <= b;
                case 2 -> a > b;
                case 3 -> a >= b;
                case 4 -> a == b;
                default -> a != b;
            };
        }

        private boolean isSo(int what, int how, int s, int t) {
            return isSo(how, values[what][s], values[what][t]);
        }

        private static boolean isMinusNought(double v) {
            return v == 0 && 1 / v < 0;
        }

        boolean put(int what, int s, int sort, int q) {
            if (!in(what, 1) || !in(s, 32) || !in(sort, 4) || sort == 0 && Math.abs((long) q) > 40000) {
                return false;
            }
            double[] bySort = {q / 4.0, Double.NaN, -0.0, Double.POSITIVE_INFINITY, Double.NEGATIVE_INFINITY};
            values[what][s] = bySort[sort];
            return true;
        }

        int sort(int what, int s) {
            if (!in(what, 1) || !in(s, 32)) {
                return -1;
            }
            double v = values[what][s];
            if (Double.isNaN(v)) {
                return 1;
            }
            if (Double.isInfinite(v)) {
                return v > 0 ? 3 : 4;
            }
            return isMinusNought(v) ? 2 : 0;
        }

        int quarters(int what, int s) {
            return sort(what, s) == 0 ? (int) (values[what][s] * 4) : 0;
        }

        private boolean isPair(int what, int how, int s, int t) {
            return in(what, 1) && in(how, 5) && in(s, 32) && in(t, 32);
        }

        int holds(int what, int how, int s, int t) {
            if (isPair(what, how, s, t)) {
                latest = isSo(what, how, s, t) ? 1 : 0;
                return latest;
            }
            return -1;
        }

        int denies(int what, int how, int s, int t) {
            if (isPair(what, how, s, t)) {
                int denial = isSo(what, how, s, t) ? 0 : 1;
                denials += denial;
                return denial;
            }
            return -1;
        }

        int pick(int what, int how, int s, int t) {
            if (isPair(what, how, s, t)) {
                return isSo(what, how, s, t) ? s : t;
            }
            return -1;
        }

        int climb(int what, int how, int s) {
            if (!isPair(what, how, s, s) || s == 32) {
                return -1;
            }
            for (int k = s; k < 31; k++) {
                if (!isSo(what, how, k, k + 1)) {
                    return k;
                }
            }
            return 31;
        }

        int first(int what, int how, int s, boolean isNot) {
            if (isPair(what, how, s, s)) {
                for (int k = s; k < 32; k++) {
                    boolean so = isSo(what, how, k, 32);
                    if (isNot ? !so : so) {
                        return k;
                    }
                }
            }
            return -1;
        }

        int best(int what, int how, boolean isNot) {
            if (!isPair(what, how, 0, 0)) {
                return -1;
            }
            int there = 0;
            for (int k = 1; k < 32; k++) {
                boolean so = isSo(what, how, k, there);
                there = (isNot ? !so : so) ? k : there;
            }
            return there;
        }

        int pass(int what, int how, int s, int t) {
            if (!isPair(what, how, s, t) || s > t || t == 32) {
                return -1;
            }
            int before = changes;
            for (int k = s; k <= t - 1; k++) {
                double one = values[what][k];
                double next = values[what][k + 1];
                if (!isSo(how, one, next)) {
                    values[what][k] = next;
                    values[what][k + 1] = one;
                    changes++;
                }
            }
            return changes - before;
        }

        int within(int what, int s, int low, int high) {
            if (!in(what, 1) || !in(s, 31) || !in(low, 32) || !in(high, 32)) {
                return -1;
            }
            double v = values[what][s];
            double a = values[what][low];
            double b = values[what][high];
            return (v >= a && v <= b ? 1 : 0) + (!(v < a) && !(v > b) ? 2 : 0)
                + (v < a || v > b ? 4 : 0) + (v != v ? 8 : 0);
        }

        boolean guard(int g, int what, int how, int s, int mode) {
            if (!in(g, 7) || !in(what, 1) || !in(how, 5) || !in(s, 31) || !in(mode, 2)) {
                return false;
            }
            guards[g] = new int[] {what, how, mode};
            copies[g] = values[what][s];
            did[g] = false;
            rang[g] = 0;
            return true;
        }

        int look() {
            int sum = 0;
            for (int g = 0; g < 8; g++) {
                if (guards[g] == null) {
                    continue;
                }
                boolean does = isSo(guards[g][1], values[guards[g][0]][32], copies[g]);
                boolean[] byMode = {does, !does, does && !did[g] || !does && did[g]};
                did[g] = does;
                if (byMode[guards[g][2]]) {
                    rang[g]++;
                    sum += (int) Math.pow(2, g);
                }
            }
            return sum;
        }

        int rings(int g) {
            return in(g, 7) && guards[g] != null ? rang[g] : -1;
        }

        boolean strike(int s) {
            if (!in(s, 31)) {
                return false;
            }
            values[0][32] = values[0][s];
            values[1][32] = values[1][s];
            return true;
        }

        int count(int which) {
            int set = 0;
            for (int[] guard : guards) {
                set += guard == null ? 0 : 1;
            }
            int[] counts = {denials, latest, set, changes};
            return in(which, 3) ? counts[which] : -1;
        }
    }
}
