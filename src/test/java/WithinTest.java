/** Promise 12: within. */
public final class WithinTest {
    private static final Due due = new Due();

    public static void main(String[] args) {
        amongNumbers();
        farthestNumbers();
        amongNone();
        againstItself();
        tensionsApart();
        refused();
        due.end();
    }

    /** Asks within of one pitch with a low and a high one, with the FORK for the high one and then for the low one. */
    private static void asked(int[] one, int[] low, int[] high, int want) {
        String call = "within of sorts " + one[0] + ", " + low[0] + ", " + high[0]
            + " and QUARTERS " + one[1] + ", " + low[1] + ", " + high[1];
        TunerBench x = new TunerBench();
        x.put(0, 31, one[0], one[1]);
        x.put(0, 0, low[0], low[1]);
        x.put(0, 32, high[0], high[1]);
        due.is(call, x.within(0, 31, 0, 32), want);
        x.put(0, 32, low[0], low[1]);
        x.put(0, 0, high[0], high[1]);
        due.is(call, x.within(0, 31, 32, 0), want);
    }

    private static int[] quarters(int q) {
        return new int[] {0, q};
    }

    private static int[] sort(int sort) {
        return new int[] {sort, 0};
    }

    private static void amongNumbers() {
        asked(quarters(5), quarters(4), quarters(6), 3);
        asked(quarters(4), quarters(4), quarters(6), 3);
        asked(quarters(6), quarters(4), quarters(6), 3);
        asked(quarters(3), quarters(4), quarters(6), 4);
        asked(quarters(7), quarters(4), quarters(6), 4);
        asked(quarters(5), quarters(6), quarters(4), 4);
    }

    private static void farthestNumbers() {
        asked(sort(2), quarters(0), quarters(0), 3);
        asked(quarters(0), sort(2), sort(2), 3);
        asked(quarters(40000), sort(4), sort(3), 3);
        asked(sort(3), sort(4), sort(3), 3);
        asked(sort(4), sort(4), sort(3), 3);
        asked(sort(3), quarters(-40000), quarters(40000), 4);
        asked(sort(4), quarters(-40000), quarters(40000), 4);
    }

    private static void amongNone() {
        asked(sort(1), quarters(4), quarters(6), 10);
        asked(sort(1), sort(1), sort(1), 10);
        asked(quarters(5), sort(1), quarters(6), 2);
        asked(quarters(5), quarters(4), sort(1), 2);
        asked(quarters(5), sort(1), sort(1), 2);
        asked(quarters(7), sort(1), quarters(6), 4);
        asked(quarters(3), quarters(4), sort(1), 4);
    }

    private static void againstItself() {
        TunerBench x = new TunerBench();
        due.is("within(0, 3, 3, 3) of NONE", x.within(0, 3, 3, 3), 10);
        x.put(0, 3, 0, 1);
        due.is("within(0, 3, 3, 3)", x.within(0, 3, 3, 3), 3);
    }

    private static void tensionsApart() {
        TunerBench x = new TunerBench();
        for (int s = 0; s < 3; s++) {
            x.put(0, s, 0, 10 * s);
            x.put(1, s, 0, -10 * s);
        }
        due.is("pitches: within(0, 1, 0, 2)", x.within(0, 1, 0, 2), 3);
        due.is("tensions: within(1, 1, 0, 2)", x.within(1, 1, 0, 2), 4);
    }

    private static void refused() {
        TunerBench x = new TunerBench();
        int[] noWhats = {-1, 2, Integer.MIN_VALUE, Integer.MAX_VALUE};
        for (int what : noWhats) {
            due.is("within(" + what + ", 0, 1, 2)", x.within(what, 0, 1, 2), -1);
        }
        int[] none = {-1, 33, Integer.MIN_VALUE, Integer.MAX_VALUE};
        for (int s : none) {
            due.is("within(0, " + s + ", 1, 2)", x.within(0, s, 1, 2), -1);
            due.is("within(0, 0, " + s + ", 2)", x.within(0, 0, s, 2), -1);
            due.is("within(0, 0, 1, " + s + ")", x.within(0, 0, 1, s), -1);
        }
        due.is("within(0, 32, 1, 2): the FORK", x.within(0, 32, 1, 2), -1);
    }
}
