/** The boundary cases that the document's 'What it is' and 'Terms' name, one test for each sentence. */
public final class BoundaryTermsTest {
    private static final int FORK = 32;
    // {sort, q}, from the lowest NUMBER to the highest; the two noughts are told apart by their sort alone.
    private static final int[][] RISING = {
        {4, 0}, {0, -40000}, {0, -39999}, {0, -1}, {0, 0}, {0, 1}, {0, 39999}, {0, 40000}, {3, 0},
    };
    private static final int[] MINUS_NOUGHT = {2, 0};
    private static final int[] NO_VALUE = {1, 0};

    // What holds answers for HOW 0 to 5.
    private static final String BELOW = "110001";
    private static final String ABOVE = "001101";
    private static final String EQUAL = "010110";
    private static final String JUST_UNEQUAL = "000001";

    private static final Due due = new Due();

    public static void main(String[] args) {
        stringsAndFork();
        whats();
        atFirstNone();
        quartersFromLeastToMost();
        numbersByTheirSize();
        pitchesAgainstPitchesAlone();
        minusNought();
        aboveAll();
        belowAll();
        justUnequalWhereOneIsNone();
        theForkOnlyWhereItIsTold();
        fiveHundredAndTwelveCalls();
        due.end();
    }

    private static void put(TunerBench x, int s, int[] value) {
        x.put(0, s, value[0], value[1]);
    }

    /** Holds one against the other, as STRINGS 0 and 31, in all six ways. */
    private static void standing(String sentence, int[] one, int[] other, String want) {
        TunerBench x = new TunerBench();
        put(x, 0, one);
        put(x, 31, other);
        StringBuilder got = new StringBuilder();
        for (int how = 0; how <= 5; how++) {
            got.append(x.holds(0, how, 0, 31));
        }
        String pair = " {" + one[0] + ", " + one[1] + "} against {" + other[0] + ", " + other[1] + "}";
        due.is(sentence + pair + ", HOW 0 to 5,", got.toString(), want);
    }

    private static void stringsAndFork() {
        String sentence = "STRINGS are 0 .. 31; 32 is the FORK: ";
        TunerBench x = new TunerBench();
        int[] taken = {0, 1, 30, 31, FORK};
        for (int s : taken) {
            due.is(sentence + "put of " + s, x.put(0, s, 0, 7 + s), true);
            due.is(sentence + "quarters of " + s, x.quarters(0, s), 7 + s);
        }
        due.is(sentence + "put of -1", x.put(0, -1, 0, 7), false);
        due.is(sentence + "put of 33", x.put(0, 33, 0, 7), false);
        due.is(sentence + "sort of -1", x.sort(0, -1), -1);
        due.is(sentence + "sort of 33", x.sort(0, 33), -1);
        due.is(sentence + "the FORK is what first holds against", x.first(0, 4, 0, false), -1);
        x.put(0, 31, 0, 7 + FORK);
        due.is(sentence + "the FORK is what first holds against", x.first(0, 4, 0, false), 31);
    }

    private static void whats() {
        String sentence = "WHAT is 0 or 1: ";
        TunerBench x = new TunerBench();
        due.is(sentence + "put of 0", x.put(0, 0, 3, 0), true);
        due.is(sentence + "put of 1", x.put(1, 0, 4, 0), true);
        due.is(sentence + "put of 2", x.put(2, 0, 2, 0), false);
        due.is(sentence + "put of -1", x.put(-1, 0, 2, 0), false);
        due.is(sentence + "sort of 0", x.sort(0, 0), 3);
        due.is(sentence + "sort of 1", x.sort(1, 0), 4);
    }

    private static void atFirstNone() {
        TunerBench x = new TunerBench();
        for (int s = 0; s <= FORK; s++) {
            due.is("at first NONE: sort(0, " + s + ")", x.sort(0, s), 1);
            due.is("at first NONE: sort(1, " + s + ")", x.sort(1, s), 1);
            due.is("at first NONE: unequal to itself, " + s, x.holds(0, 5, s, s), 1);
            due.is("at first NONE: unequal to itself, " + s, x.holds(1, 5, s, s), 1);
        }
    }

    private static void quartersFromLeastToMost() {
        String sentence = "q -40000 .. 40000: ";
        TunerBench x = new TunerBench();
        int[] taken = {-40000, 40000};
        int[] refused = {-40001, 40001};
        for (int k = 0; k < 2; k++) {
            due.is(sentence + taken[k], x.put(1, 0, 0, taken[k]), true);
            due.is(sentence + refused[k], x.put(1, 0, 0, refused[k]), false);
            due.is(sentence + "quarters", x.quarters(1, 0), taken[k]);
            due.is(sentence + "sort", x.sort(1, 0), 0);
        }
    }

    private static void numbersByTheirSize() {
        for (int k = 0; k < RISING.length; k++) {
            for (int m = 0; m < RISING.length; m++) {
                String want = k < m ? BELOW : k > m ? ABOVE : EQUAL;
                standing("NUMBERS by their size:", RISING[k], RISING[m], want);
            }
        }
    }

    private static void pitchesAgainstPitchesAlone() {
        TunerBench x = new TunerBench();
        x.put(0, 0, 0, 5);
        x.put(1, 1, 0, 5);
        for (int how = 0; how <= 5; how++) {
            int want = how == 5 ? 1 : 0;
            due.is("PITCHES against PITCHES alone, HOW " + how, x.holds(0, how, 0, 1), want);
            due.is("TENSIONS against TENSIONS alone, HOW " + how, x.holds(1, how, 0, 1), want);
        }
    }

    private static void minusNought() {
        String sentence = "MINUS NOUGHT is equal to 0 QUARTERS and to itself:";
        int[] nought = {0, 0};
        standing(sentence, MINUS_NOUGHT, nought, EQUAL);
        standing(sentence, nought, MINUS_NOUGHT, EQUAL);
        standing(sentence, MINUS_NOUGHT, MINUS_NOUGHT, EQUAL);
        for (int k = 0; k < RISING.length; k++) {
            int[] other = RISING[k];
            if (other[0] == 0 && other[1] == 0) {
                continue;
            }
            boolean isLow = k < RISING.length / 2;
            standing("MINUS NOUGHT by its size:", MINUS_NOUGHT, other, isLow ? ABOVE : BELOW);
            standing("MINUS NOUGHT by its size:", other, MINUS_NOUGHT, isLow ? BELOW : ABOVE);
        }
        TunerBench x = new TunerBench();
        put(x, 0, MINUS_NOUGHT);
        due.is("MINUS NOUGHT stays a sort of its own", x.sort(0, 0), 2);
        put(x, 0, nought);
        due.is("0 QUARTERS stay a sort of their own", x.sort(0, 0), 0);
    }

    private static void aboveAll() {
        int[] aboveAll = {3, 0};
        String sentence = "ABOVE ALL is above all others and equal to itself:";
        standing(sentence, aboveAll, aboveAll, EQUAL);
        int[][] others = {{0, 40000}, {0, 0}, {0, -40000}, MINUS_NOUGHT, {4, 0}};
        for (int[] other : others) {
            standing(sentence, aboveAll, other, ABOVE);
            standing(sentence, other, aboveAll, BELOW);
        }
    }

    private static void belowAll() {
        int[] belowAll = {4, 0};
        String sentence = "BELOW ALL below all others and equal to itself:";
        standing(sentence, belowAll, belowAll, EQUAL);
        int[][] others = {{0, 40000}, {0, 0}, {0, -40000}, MINUS_NOUGHT, {3, 0}};
        for (int[] other : others) {
            standing(sentence, belowAll, other, BELOW);
            standing(sentence, other, belowAll, ABOVE);
        }
    }

    private static void justUnequalWhereOneIsNone() {
        String sentence = "Where one of both is NONE, or both are, just 5 is so:";
        for (int[] other : RISING) {
            standing(sentence, NO_VALUE, other, JUST_UNEQUAL);
            standing(sentence, other, NO_VALUE, JUST_UNEQUAL);
        }
        standing(sentence, NO_VALUE, MINUS_NOUGHT, JUST_UNEQUAL);
        standing(sentence, MINUS_NOUGHT, NO_VALUE, JUST_UNEQUAL);
        standing(sentence, NO_VALUE, NO_VALUE, JUST_UNEQUAL);
    }

    private static void theForkOnlyWhereItIsTold() {
        String sentence = "The FORK is taken for a STRING only where it is told: ";
        TunerBench x = new TunerBench();
        due.is(sentence + "put", x.put(0, FORK, 0, -8), true);
        due.is(sentence + "sort", x.sort(0, FORK), 0);
        due.is(sentence + "quarters", x.quarters(0, FORK), -8);
        due.is(sentence + "holds", x.holds(0, 4, FORK, FORK), 1);
        due.is(sentence + "denies", x.denies(0, 5, FORK, FORK), 1);
        due.is(sentence + "pick", x.pick(0, 4, FORK, 0), 0);
        due.is(sentence + "pick", x.pick(0, 5, FORK, 0), FORK);
        due.is(sentence + "pick", x.pick(0, 4, 0, FORK), FORK);
        due.is(sentence + "within", x.within(0, 0, FORK, FORK), 10);
        due.is(sentence + "climb", x.climb(0, 4, FORK), -1);
        due.is(sentence + "first", x.first(0, 4, FORK, false), -1);
        due.is(sentence + "first", x.first(0, 4, FORK, true), -1);
        due.is(sentence + "pass", x.pass(0, 4, FORK, FORK), -1);
        due.is(sentence + "pass", x.pass(0, 5, 0, FORK), -1);
        due.is(sentence + "within", x.within(0, FORK, FORK, FORK), -1);
        due.is(sentence + "guard", x.guard(0, 0, 4, FORK, 0), false);
        due.is(sentence + "strike", x.strike(FORK), false);
    }

    private static void fiveHundredAndTwelveCalls() {
        String sentence = "at most 512 calls: ";
        TunerBench x = new TunerBench();
        for (int k = 1; k <= 511; k++) {
            due.is(sentence + "denies", x.denies(0, 4, 0, 1), 1);
        }
        due.is(sentence + "count(0), the 512th", x.count(0), 511);

        x = new TunerBench();
        for (int k = 1; k <= 511; k++) {
            due.is(sentence + "pass", x.pass(k % 2, k % 5, 0, 31), 31);
        }
        due.is(sentence + "count(3), the 512th", x.count(3), 511 * 31);

        x = new TunerBench();
        x.guard(7, 1, 5, 31, 0);
        for (int k = 1; k <= 510; k++) {
            due.is(sentence + "look", x.look(), 128);
        }
        due.is(sentence + "rings(7), the 512th", x.rings(7), 510);

        x = new TunerBench();
        for (int k = 1; k <= 511; k++) {
            due.is(sentence + "guard", x.guard(k % 8, k % 2, k % 6, k % 32, k % 3), true);
        }
        due.is(sentence + "count(2), the 512th", x.count(2), 8);
    }
}
