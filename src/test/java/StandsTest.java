/** Promises 5 to 7: holds, denies, pick, for every pair of kinds of VALUES. */
public final class StandsTest {
    // {sort, q, rank}: a higher rank is a larger NUMBER, the same rank an equal one.
    private static final int[][] KINDS = {
        {4, 0, 0}, {0, -40000, 1}, {0, -1, 2}, {0, 0, 3}, {2, 0, 3}, {0, 1, 4}, {0, 40000, 5}, {3, 0, 6}, {1, 0, -1},
    };
    private static final int NONE_RANK = -1;

    private static final Due due = new Due();

    public static void main(String[] args) {
        for (int what = 0; what < 2; what++) {
            everyPair(what, 0, 31);
            everyPair(what, 32, 5);
            everyPair(what, 5, 32);
        }
        oneAgainstItself();
        pitchesAndTensionsApart();
        holdsIsTheLatestTruth();
        deniesCounts();
        refused();
        due.end();
    }

    private static void everyPair(int what, int s, int t) {
        for (int[] one : KINDS) {
            for (int[] other : KINDS) {
                TunerBench x = new TunerBench();
                x.put(what, s, one[0], one[1]);
                x.put(what, t, other[0], other[1]);
                everyHow(x, what, s, t, one[2], other[2]);
            }
        }
    }

    private static void everyHow(TunerBench x, int what, int s, int t, int rank, int otherRank) {
        int denials = 0;
        for (int how = 0; how <= 5; how++) {
            boolean isSo = isSo(how, rank, otherRank);
            String asked = "(" + what + ", " + how + ", " + s + ", " + t + ") of ranks " + rank + ", " + otherRank;
            due.is("holds" + asked, x.holds(what, how, s, t), isSo ? 1 : 0);
            due.is("count(1) after holds" + asked, x.count(1), isSo ? 1 : 0);
            due.is("denies" + asked, x.denies(what, how, s, t), isSo ? 0 : 1);
            due.is("pick" + asked, x.pick(what, how, s, t), isSo ? s : t);
            denials += isSo ? 0 : 1;
            due.is("count(0) after denies" + asked, x.count(0), denials);
        }
    }

    private static boolean isSo(int how, int rank, int otherRank) {
        if (rank == NONE_RANK || otherRank == NONE_RANK) {
            return how == 5;
        }
        int order = Integer.compare(rank, otherRank);
        boolean[] answers = {order < 0, order <= 0, order > 0, order >= 0, order == 0, order != 0};
        return answers[how];
    }

    private static void oneAgainstItself() {
        for (int[] kind : KINDS) {
            TunerBench x = new TunerBench();
            x.put(1, 7, kind[0], kind[1]);
            everyHow(x, 1, 7, 7, kind[2], kind[2]);
        }
    }

    private static void pitchesAndTensionsApart() {
        TunerBench x = new TunerBench();
        x.put(0, 0, 0, 1);
        x.put(0, 1, 0, 2);
        x.put(1, 0, 0, 2);
        x.put(1, 1, 0, 1);
        due.is("pitches: holds(0, 0, 0, 1)", x.holds(0, 0, 0, 1), 1);
        due.is("tensions: holds(1, 0, 0, 1)", x.holds(1, 0, 0, 1), 0);
        due.is("tensions: denies(1, 0, 0, 1)", x.denies(1, 0, 0, 1), 1);
        due.is("tensions: pick(1, 0, 0, 1)", x.pick(1, 0, 0, 1), 1);
    }

    private static void holdsIsTheLatestTruth() {
        TunerBench x = new TunerBench();
        x.put(0, 0, 0, 1);
        due.is("holds(0, 4, 0, 0)", x.holds(0, 4, 0, 0), 1);
        x.denies(0, 5, 0, 0);
        x.pick(0, 5, 0, 0);
        due.is("count(1): denies and pick leave it", x.count(1), 1);
        due.is("holds(0, 5, 0, 0)", x.holds(0, 5, 0, 0), 0);
        x.denies(0, 4, 0, 0);
        x.climb(0, 5, 0);
        x.first(0, 5, 0, false);
        x.best(0, 5, false);
        x.within(0, 0, 0, 0);
        due.is("count(1): the others leave it", x.count(1), 0);
        due.is("holds(0, 9, 0, 0)", x.holds(0, 9, 0, 0), -1);
        due.is("count(1): a refused holds leaves it", x.count(1), 0);
    }

    private static void deniesCounts() {
        TunerBench x = new TunerBench();
        for (int k = 1; k <= 5; k++) {
            due.is("denies(0, 4, 0, 0) of NONE", x.denies(0, 4, 0, 0), 1);
            due.is("count(0)", x.count(0), k);
            due.is("denies(0, 5, 0, 0) of NONE", x.denies(0, 5, 0, 0), 0);
            due.is("count(0) after a 0", x.count(0), k);
        }
        x.holds(0, 4, 0, 0);
        x.pick(0, 4, 0, 1);
        due.is("count(0): holds and pick leave it", x.count(0), 5);
    }

    private static void refused() {
        TunerBench x = new TunerBench();
        int[] noWhats = {-1, 2, Integer.MIN_VALUE, Integer.MAX_VALUE};
        for (int what : noWhats) {
            refusedCall(x, what, 5, 0, 1);
        }
        int[] noHows = {-1, 6, Integer.MIN_VALUE, Integer.MAX_VALUE};
        for (int how : noHows) {
            refusedCall(x, 0, how, 0, 1);
        }
        int[] noStrings = {-1, 33, Integer.MIN_VALUE, Integer.MAX_VALUE};
        for (int s : noStrings) {
            refusedCall(x, 0, 5, s, 1);
            refusedCall(x, 0, 5, 1, s);
        }
        due.is("count(0) after refusals", x.count(0), 0);
        due.is("count(1) after refusals", x.count(1), -1);
    }

    private static void refusedCall(TunerBench x, int what, int how, int s, int t) {
        String asked = "(" + what + ", " + how + ", " + s + ", " + t + ")";
        due.is("holds" + asked, x.holds(what, how, s, t), -1);
        due.is("denies" + asked, x.denies(what, how, s, t), -1);
        due.is("pick" + asked, x.pick(what, how, s, t), -1);
    }
}
