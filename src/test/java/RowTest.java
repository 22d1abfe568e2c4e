/** Promises 8 to 11: climb, first, best, pass. */
public final class RowTest {
    private static final int[] NO_STRINGS = {-1, 32, 33, Integer.MIN_VALUE, Integer.MAX_VALUE};

    private static final Due due = new Due();

    public static void main(String[] args) {
        climb();
        climbToTheEnd();
        first();
        firstAgainstNone();
        best();
        bestTies();
        bestAmongNone();
        pass();
        passCarriesEverySort();
        passAmongNone();
        passEdges();
        refused();
        due.end();
    }

    /** Pitches 4, 8, 8, 2, NONE, 6, then NONE to the end. */
    private static TunerBench shortRow() {
        TunerBench x = new TunerBench();
        x.put(0, 0, 0, 4);
        x.put(0, 1, 0, 8);
        x.put(0, 2, 0, 8);
        x.put(0, 3, 0, 2);
        x.put(0, 5, 0, 6);
        return x;
    }

    private static void climb() {
        TunerBench x = shortRow();
        due.is("climb(0, 0, 0)", x.climb(0, 0, 0), 1);
        due.is("climb(0, 1, 0)", x.climb(0, 1, 0), 2);
        due.is("climb(0, 2, 0)", x.climb(0, 2, 0), 0);
        due.is("climb(0, 3, 1)", x.climb(0, 3, 1), 3);
        due.is("climb(0, 2, 2)", x.climb(0, 2, 2), 3);
        due.is("climb(0, 4, 1)", x.climb(0, 4, 1), 2);
        due.is("climb(0, 5, 0)", x.climb(0, 5, 0), 1);
        due.is("climb(0, 5, 2)", x.climb(0, 5, 2), 31);
        due.is("climb(0, 1, 3)", x.climb(0, 1, 3), 3);
        due.is("climb(0, 4, 4)", x.climb(0, 4, 4), 4);
        due.is("climb(1, 0, 0)", x.climb(1, 0, 0), 0);
    }

    private static void climbToTheEnd() {
        TunerBench x = new TunerBench();
        for (int s = 0; s < 32; s++) {
            x.put(1, s, 0, s);
        }
        x.put(1, 32, 0, 100);
        due.is("climb(1, 0, 0)", x.climb(1, 0, 0), 31);
        due.is("climb(1, 0, 30)", x.climb(1, 0, 30), 31);
        due.is("climb(1, 0, 31)", x.climb(1, 0, 31), 31);
        due.is("climb(1, 2, 31)", x.climb(1, 2, 31), 31);
    }

    private static void first() {
        TunerBench x = shortRow();
        x.put(0, 32, 0, 4);
        due.is("first(0, 0, 0, false)", x.first(0, 0, 0, false), 3);
        due.is("first(0, 1, 0, false)", x.first(0, 1, 0, false), 0);
        due.is("first(0, 2, 0, false)", x.first(0, 2, 0, false), 1);
        due.is("first(0, 2, 2, false)", x.first(0, 2, 2, false), 2);
        due.is("first(0, 2, 3, false)", x.first(0, 2, 3, false), 5);
        due.is("first(0, 4, 1, false)", x.first(0, 4, 1, false), -1);
        due.is("first(0, 5, 0, false)", x.first(0, 5, 0, false), 1);
        due.is("first(0, 5, 4, false)", x.first(0, 5, 4, false), 4);
        due.is("first(0, 3, 0, true)", x.first(0, 3, 0, true), 3);
        due.is("first(0, 3, 4, true)", x.first(0, 3, 4, true), 4);
        due.is("first(0, 0, 3, true)", x.first(0, 0, 3, true), 4);
        due.is("first(0, 5, 1, true)", x.first(0, 5, 1, true), -1);
        due.is("first(0, 4, 31, true)", x.first(0, 4, 31, true), 31);
        x.put(0, 31, 0, 4);
        due.is("first(0, 4, 1, false), the last one", x.first(0, 4, 1, false), 31);
    }

    private static void firstAgainstNone() {
        TunerBench x = shortRow();
        for (int how = 0; how <= 5; how++) {
            due.is("first(0, " + how + ", 2, false), FORK NONE", x.first(0, how, 2, false), how == 5 ? 2 : -1);
            due.is("first(0, " + how + ", 2, true), FORK NONE", x.first(0, how, 2, true), how == 5 ? -1 : 2);
        }
    }

    private static TunerBench fullRow() {
        TunerBench x = new TunerBench();
        for (int s = 0; s < 32; s++) {
            x.put(0, s, 0, (s * 13 + 5) % 32);
        }
        return x;
    }

    private static void best() {
        TunerBench x = fullRow();
        x.put(0, 32, 4, 0);
        due.is("best(0, 0, false): the lowest", x.quarters(0, x.best(0, 0, false)), 0);
        due.is("best(0, 2, false): the highest", x.quarters(0, x.best(0, 2, false)), 31);
        due.is("best(0, 0, true): the highest", x.quarters(0, x.best(0, 0, true)), 31);
        due.is("best(0, 3, true): the lowest", x.quarters(0, x.best(0, 3, true)), 0);
        due.is("best(0, 4, false)", x.best(0, 4, false), 0);
        due.is("best(0, 4, true)", x.best(0, 4, true), 31);
        due.is("best(0, 5, false)", x.best(0, 5, false), 31);
        due.is("best(0, 5, true)", x.best(0, 5, true), 0);
    }

    private static void bestTies() {
        TunerBench x = new TunerBench();
        for (int s = 0; s < 32; s++) {
            x.put(1, s, s % 2 == 0 ? 0 : 2, 0);
        }
        due.is("ties: best(1, 0, false)", x.best(1, 0, false), 0);
        due.is("ties: best(1, 1, false)", x.best(1, 1, false), 31);
        due.is("ties: best(1, 2, true)", x.best(1, 2, true), 31);
        due.is("ties: best(1, 3, true)", x.best(1, 3, true), 0);
    }

    private static void bestAmongNone() {
        TunerBench x = shortRow();
        due.is("best(0, 0, false), NONE among", x.best(0, 0, false), 3);
        due.is("best(0, 2, false), NONE among", x.best(0, 2, false), 1);
        due.is("best(0, 3, false), NONE among", x.best(0, 3, false), 2);
        due.is("best(0, 1, true), NONE among", x.best(0, 1, true), 31);
        x.put(0, 0, 1, 0);
        due.is("best(0, 0, false), NONE at first", x.best(0, 0, false), 0);
        due.is("best(0, 4, false), NONE at first", x.best(0, 4, false), 0);
        due.is("best(0, 5, true), NONE at first", x.best(0, 5, true), 0);
    }

    private static void pass() {
        TunerBench x = new TunerBench();
        int[] pitches = {9, 3, 7, 7, 1, 8};
        for (int s = 0; s < pitches.length; s++) {
            x.put(0, s, 0, pitches[s]);
            x.put(1, s, 0, s);
        }
        due.is("pass(0, 1, 1, 4)", x.pass(0, 1, 1, 4), 1);
        row(x, 9, 3, 7, 1, 7, 8);
        due.is("count(3)", x.count(3), 1);
        due.is("pass(0, 1, 0, 5)", x.pass(0, 1, 0, 5), 5);
        row(x, 3, 7, 1, 7, 8, 9);
        due.is("count(3)", x.count(3), 6);
        due.is("pass(0, 1, 0, 5)", x.pass(0, 1, 0, 5), 1);
        row(x, 3, 1, 7, 7, 8, 9);
        due.is("pass(0, 0, 2, 3): equal ones", x.pass(0, 0, 2, 3), 1);
        due.is("pass(0, 1, 1, 5): none", x.pass(0, 1, 1, 5), 0);
        row(x, 3, 1, 7, 7, 8, 9);
        due.is("count(3)", x.count(3), 8);
        for (int s = 0; s < pitches.length; s++) {
            due.is("quarters(1, " + s + "), the other WHAT", x.quarters(1, s), s);
        }
    }

    private static void row(TunerBench x, int... pitches) {
        for (int s = 0; s < pitches.length; s++) {
            due.is("after a pass: quarters(0, " + s + ")", x.quarters(0, s), pitches[s]);
        }
    }

    private static void passCarriesEverySort() {
        TunerBench x = new TunerBench();
        int[] sorts = {3, 2, 1, 4, 0};
        for (int s = 0; s < sorts.length; s++) {
            x.put(1, s, sorts[s], -6);
        }
        due.is("pass(1, 0, 0, 4)", x.pass(1, 0, 0, 4), 4);
        int[] after = {2, 1, 4, 0, 3};
        for (int s = 0; s < after.length; s++) {
            due.is("after a pass: sort(1, " + s + ")", x.sort(1, s), after[s]);
        }
        due.is("after a pass: quarters(1, 3)", x.quarters(1, 3), -6);
    }

    private static void passAmongNone() {
        TunerBench x = new TunerBench();
        for (int how = 0; how <= 5; how++) {
            due.is("pass(0, " + how + ", 0, 31) of NONE", x.pass(0, how, 0, 31), how == 5 ? 0 : 31);
        }
        due.is("count(3)", x.count(3), 155);
    }

    private static void passEdges() {
        TunerBench x = new TunerBench();
        x.put(0, 30, 0, 2);
        x.put(0, 31, 0, 1);
        x.put(0, 32, 0, 0);
        due.is("pass(0, 0, 31, 31)", x.pass(0, 0, 31, 31), 0);
        due.is("pass(0, 0, 0, 0)", x.pass(0, 0, 0, 0), 0);
        due.is("pass(0, 0, 31, 30)", x.pass(0, 0, 31, 30), -1);
        due.is("pass(0, 0, 30, 32)", x.pass(0, 0, 30, 32), -1);
        due.is("quarters(0, 30) after a refusal", x.quarters(0, 30), 2);
        due.is("pass(0, 0, 30, 31)", x.pass(0, 0, 30, 31), 1);
        due.is("quarters(0, 30)", x.quarters(0, 30), 1);
        due.is("quarters(0, 31)", x.quarters(0, 31), 2);
        due.is("quarters(0, 32)", x.quarters(0, 32), 0);
        due.is("count(3)", x.count(3), 1);
    }

    private static void refused() {
        TunerBench x = shortRow();
        int[] noWhats = {-1, 2, Integer.MIN_VALUE, Integer.MAX_VALUE};
        for (int what : noWhats) {
            refusedQuestion(x, what, 0);
        }
        int[] noHows = {-1, 6, Integer.MIN_VALUE, Integer.MAX_VALUE};
        for (int how : noHows) {
            refusedQuestion(x, 0, how);
        }
        for (int s : NO_STRINGS) {
            due.is("climb(0, 5, " + s + ")", x.climb(0, 5, s), -1);
            due.is("first(0, 5, " + s + ", false)", x.first(0, 5, s, false), -1);
            due.is("first(0, 5, " + s + ", true)", x.first(0, 5, s, true), -1);
            due.is("pass(0, 0, " + s + ", 5)", x.pass(0, 0, s, 5), -1);
            due.is("pass(0, 0, 0, " + s + ")", x.pass(0, 0, 0, s), -1);
        }
        row(x, 4, 8, 8, 2, 0, 6);
        due.is("count(3) after refusals", x.count(3), 0);
    }

    private static void refusedQuestion(TunerBench x, int what, int how) {
        String asked = "(" + what + ", " + how + ", ..)";
        due.is("climb" + asked, x.climb(what, how, 0), -1);
        due.is("first" + asked, x.first(what, how, 0, false), -1);
        due.is("first, isNot" + asked, x.first(what, how, 0, true), -1);
        due.is("best" + asked, x.best(what, how, false), -1);
        due.is("best, isNot" + asked, x.best(what, how, true), -1);
        due.is("pass" + asked, x.pass(what, how, 0, 5), -1);
    }
}
