/** Promises 16 and 17: strike, count. */
public final class StrikeAndCountTest {
    private static final Due due = new Due();

    public static void main(String[] args) {
        strikeTakesBothValues();
        strikeTakesEverySort();
        strikeIsSeenByTheOthers();
        strikeRefused();
        counts();
        countRefused();
        due.end();
    }

    private static void fork(TunerBench x, int pitchSort, int pitch, int tensionSort, int tension) {
        due.is("sort(0, 32)", x.sort(0, 32), pitchSort);
        due.is("quarters(0, 32)", x.quarters(0, 32), pitch);
        due.is("sort(1, 32)", x.sort(1, 32), tensionSort);
        due.is("quarters(1, 32)", x.quarters(1, 32), tension);
    }

    private static void strikeTakesBothValues() {
        TunerBench x = new TunerBench();
        x.put(0, 31, 0, 5);
        x.put(1, 31, 0, 6);
        due.is("strike(31)", x.strike(31), true);
        fork(x, 0, 5, 0, 6);
        x.put(0, 31, 0, 50);
        fork(x, 0, 5, 0, 6);
        x.put(0, 32, 0, 7);
        due.is("quarters(0, 31), the STRING's own", x.quarters(0, 31), 50);
        due.is("quarters(1, 31), the STRING's own", x.quarters(1, 31), 6);
        due.is("strike(0)", x.strike(0), true);
        fork(x, 1, 0, 1, 0);
    }

    private static void strikeTakesEverySort() {
        TunerBench x = new TunerBench();
        for (int sort = 0; sort <= 4; sort++) {
            x.put(0, 9, sort, -3);
            x.put(1, 9, 4 - sort, 8);
            due.is("strike(9)", x.strike(9), true);
            fork(x, sort, sort == 0 ? -3 : 0, 4 - sort, sort == 4 ? 8 : 0);
        }
    }

    private static void strikeIsSeenByTheOthers() {
        TunerBench x = new TunerBench();
        x.put(0, 4, 0, 5);
        x.guard(0, 0, 4, 4, 2);
        due.is("look() ahead of a strike", x.look(), 0);
        x.strike(4);
        due.is("look() after a strike", x.look(), 1);
        due.is("first(0, 4, 0, false)", x.first(0, 4, 0, false), 4);
    }

    private static void strikeRefused() {
        TunerBench x = new TunerBench();
        x.put(0, 32, 0, 5);
        x.put(1, 32, 3, 0);
        int[] none = {-1, 32, 33, Integer.MIN_VALUE, Integer.MAX_VALUE};
        for (int s : none) {
            due.is("strike(" + s + ")", x.strike(s), false);
            fork(x, 0, 5, 3, 0);
        }
    }

    private static void counted(TunerBench x, int denials, int truth, int guards, int changes) {
        due.is("count(0)", x.count(0), denials);
        due.is("count(1)", x.count(1), truth);
        due.is("count(2)", x.count(2), guards);
        due.is("count(3)", x.count(3), changes);
    }

    private static void counts() {
        TunerBench x = new TunerBench();
        counted(x, 0, -1, 0, 0);
        x.denies(0, 4, 0, 1);
        counted(x, 1, -1, 0, 0);
        x.holds(0, 5, 0, 1);
        counted(x, 1, 1, 0, 0);
        x.guard(7, 0, 5, 0, 0);
        counted(x, 1, 1, 1, 0);
        x.pass(0, 4, 0, 3);
        counted(x, 1, 1, 1, 3);
        x.holds(1, 4, 0, 32);
        x.denies(1, 4, 32, 0);
        x.guard(0, 1, 5, 0, 0);
        x.pass(1, 0, 30, 31);
        counted(x, 2, 0, 2, 4);
        x.strike(0);
        x.look();
        counted(x, 2, 0, 2, 4);
    }

    private static void countRefused() {
        TunerBench x = new TunerBench();
        int[] none = {-1, 4, 5, Integer.MIN_VALUE, Integer.MAX_VALUE};
        for (int which : none) {
            due.is("count(" + which + ")", x.count(which), -1);
        }
    }
}
