/** Promises 13 to 15: guard, look, rings. */
public final class GuardTest {
    private static final Due due = new Due();

    public static void main(String[] args) {
        ringsWhenTheForkStands();
        ringsWhenTheForkDoesNotStand();
        ringsAtEachChange();
        theForkIsTheFirst();
        keepsACopy();
        setAnew();
        eachGuardHasItsPlace();
        copyOfNone();
        refused();
        due.end();
    }

    private static TunerBench benchWithPitch(int q) {
        TunerBench x = new TunerBench();
        x.put(0, 0, 0, q);
        return x;
    }

    private static void looks(TunerBench x, int fork, int want) {
        x.put(0, 32, 0, fork);
        due.is("look(), FORK at " + fork, x.look(), want);
    }

    private static void ringsWhenTheForkStands() {
        TunerBench x = benchWithPitch(5);
        due.is("guard(0, 0, 3, 0, 0)", x.guard(0, 0, 3, 0, 0), true);
        due.is("rings(0), no look yet", x.rings(0), 0);
        due.is("look(), FORK NONE", x.look(), 0);
        looks(x, 4, 0);
        looks(x, 5, 1);
        looks(x, 6, 1);
        looks(x, 4, 0);
        due.is("rings(0)", x.rings(0), 2);
    }

    private static void ringsWhenTheForkDoesNotStand() {
        TunerBench x = benchWithPitch(5);
        due.is("guard(0, 0, 3, 0, 1)", x.guard(0, 0, 3, 0, 1), true);
        due.is("look(), FORK NONE", x.look(), 1);
        looks(x, 4, 1);
        looks(x, 5, 0);
        looks(x, 6, 0);
        due.is("rings(0)", x.rings(0), 2);
    }

    private static void ringsAtEachChange() {
        TunerBench x = benchWithPitch(5);
        due.is("guard(0, 0, 3, 0, 2)", x.guard(0, 0, 3, 0, 2), true);
        due.is("look(), FORK NONE: it did not before", x.look(), 0);
        looks(x, 5, 1);
        looks(x, 6, 0);
        looks(x, 4, 1);
        looks(x, 3, 0);
        looks(x, 9, 1);
        x.put(0, 32, 1, 0);
        due.is("look(), FORK NONE again", x.look(), 1);
        due.is("rings(0)", x.rings(0), 4);
        x.put(0, 32, 0, 9);
        due.is("guard(0, 0, 3, 0, 2)", x.guard(0, 0, 3, 0, 2), true);
        due.is("look(), the first one, FORK at 9", x.look(), 1);
        due.is("rings(0)", x.rings(0), 1);
    }

    private static void theForkIsTheFirst() {
        TunerBench x = benchWithPitch(5);
        for (int how = 0; how <= 5; how++) {
            x.guard(how, 0, how, 0, 0);
        }
        looks(x, 4, 0b100011);
        looks(x, 5, 0b011010);
        looks(x, 6, 0b101100);
    }

    private static void keepsACopy() {
        TunerBench x = benchWithPitch(5);
        x.guard(2, 0, 4, 0, 0);
        x.put(0, 0, 0, 8);
        looks(x, 5, 4);
        looks(x, 8, 0);
        x.put(1, 0, 2, 0);
        x.guard(3, 1, 4, 0, 0);
        x.put(1, 0, 1, 0);
        x.put(1, 32, 0, 0);
        due.is("look(), tension equal to MINUS NOUGHT", x.look(), 8);
        due.is("rings(2)", x.rings(2), 1);
        due.is("rings(3)", x.rings(3), 1);
    }

    private static void setAnew() {
        TunerBench x = benchWithPitch(5);
        x.guard(1, 0, 4, 0, 2);
        looks(x, 5, 2);
        due.is("rings(1)", x.rings(1), 1);
        due.is("a refused guard(1, 0, 4, 0, 3)", x.guard(1, 0, 4, 0, 3), false);
        due.is("rings(1) after a refusal", x.rings(1), 1);
        looks(x, 5, 0);
        due.is("guard(1, 0, 4, 0, 2)", x.guard(1, 0, 4, 0, 2), true);
        due.is("rings(1), set anew", x.rings(1), 0);
        due.is("count(2), set anew", x.count(2), 1);
        looks(x, 5, 2);
        x.put(0, 0, 0, 6);
        x.guard(1, 0, 0, 0, 1);
        looks(x, 5, 0);
        looks(x, 6, 2);
        due.is("rings(1)", x.rings(1), 1);
    }

    private static void eachGuardHasItsPlace() {
        TunerBench x = benchWithPitch(5);
        x.put(0, 32, 0, 5);
        int sum = 0;
        for (int g = 7; g >= 0; g--) {
            due.is("rings(" + g + "), not set", x.rings(g), -1);
            due.is("guard(" + g + ", 0, 4, 0, 0)", x.guard(g, 0, 4, 0, 0), true);
            sum += (int) Math.pow(2, g);
            due.is("look() with GUARDS " + g + " .. 7", x.look(), sum);
            due.is("count(2)", x.count(2), 8 - g);
        }
        for (int g = 0; g < 8; g++) {
            due.is("rings(" + g + ")", x.rings(g), g + 1);
        }
    }

    private static void copyOfNone() {
        TunerBench x = new TunerBench();
        for (int how = 0; how <= 5; how++) {
            due.is("guard(" + how + ", 0, " + how + ", 31, 0)", x.guard(how, 0, how, 31, 0), true);
        }
        due.is("look(), both NONE", x.look(), 32);
        looks(x, 0, 32);
        for (int how = 0; how <= 5; how++) {
            x.guard(how, 0, how, 31, 1);
        }
        due.is("look() of those that do not", x.look(), 31);
    }

    private static void refused() {
        TunerBench x = benchWithPitch(5);
        int[] far = {-1, Integer.MIN_VALUE, Integer.MAX_VALUE};
        for (int n : far) {
            refusedGuard(x, n, 0, 5, 0, 1);
            refusedGuard(x, 0, n, 5, 0, 1);
            refusedGuard(x, 0, 0, n, 0, 1);
            refusedGuard(x, 0, 0, 5, n, 1);
            refusedGuard(x, 0, 0, 5, 0, n);
            due.is("rings(" + n + ")", x.rings(n), -1);
        }
        refusedGuard(x, 8, 0, 5, 0, 1);
        refusedGuard(x, 0, 2, 5, 0, 1);
        refusedGuard(x, 0, 0, 6, 0, 1);
        refusedGuard(x, 0, 0, 5, 32, 1);
        refusedGuard(x, 0, 0, 5, 33, 1);
        refusedGuard(x, 0, 0, 5, 0, 3);
        due.is("rings(8)", x.rings(8), -1);
        due.is("look() after refusals", x.look(), 0);
        due.is("count(2) after refusals", x.count(2), 0);
    }

    private static void refusedGuard(TunerBench x, int g, int what, int how, int s, int mode) {
        String call = "guard(" + g + ", " + what + ", " + how + ", " + s + ", " + mode + ")";
        due.is(call, x.guard(g, what, how, s, mode), false);
        due.is("rings(0) after " + call, x.rings(0), -1);
    }
}
