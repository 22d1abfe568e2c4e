/** Promises 1 to 4: a new object, put, sort, quarters. */
public final class ValuesTest {
    private static final int[] NO_WHATS = {-1, 2, Integer.MIN_VALUE, Integer.MAX_VALUE};
    private static final int[] NO_STRINGS_NOR_FORK = {-1, 33, 34, Integer.MIN_VALUE, Integer.MAX_VALUE};

    private static final Due due = new Due();

    public static void main(String[] args) {
        newObject();
        twoObjectsApart();
        putEachSort();
        putOnEveryPlace();
        putEdgesOfQuarters();
        quartersCountForSortNoughtAlone();
        putRefused();
        readingRefused();
        due.end();
    }

    private static void newObject() {
        TunerBench x = new TunerBench();
        due.is("NONE", TunerBench.NONE, -1);
        for (int what = 0; what < 2; what++) {
            for (int s = 0; s <= 32; s++) {
                due.is("new: sort(" + what + ", " + s + ")", x.sort(what, s), 1);
                due.is("new: quarters(" + what + ", " + s + ")", x.quarters(what, s), 0);
            }
        }
        for (int g = 0; g < 8; g++) {
            due.is("new: rings(" + g + ")", x.rings(g), -1);
        }
        due.is("new: count(0)", x.count(0), 0);
        due.is("new: count(1)", x.count(1), -1);
        due.is("new: count(2)", x.count(2), 0);
        due.is("new: count(3)", x.count(3), 0);
        due.is("new: look()", x.look(), 0);
    }

    private static void twoObjectsApart() {
        TunerBench x = new TunerBench();
        TunerBench y = new TunerBench();
        x.put(0, 0, 0, 4);
        x.guard(0, 0, 4, 0, 1);
        x.look();
        x.denies(0, 5, 0, 0);
        due.is("another object: sort(0, 0)", y.sort(0, 0), 1);
        due.is("another object: rings(0)", y.rings(0), -1);
        due.is("another object: count(0)", y.count(0), 0);
    }

    private static void putEachSort() {
        TunerBench x = new TunerBench();
        for (int sort = 0; sort <= 4; sort++) {
            due.is("put(0, 3, " + sort + ", 7)", x.put(0, 3, sort, 7), true);
            due.is("sort(0, 3) of sort " + sort, x.sort(0, 3), sort);
            due.is("quarters(0, 3) of sort " + sort, x.quarters(0, 3), sort == 0 ? 7 : 0);
            due.is("sort(1, 3), never put", x.sort(1, 3), 1);
        }
    }

    private static void putOnEveryPlace() {
        TunerBench x = new TunerBench();
        for (int what = 0; what < 2; what++) {
            for (int s = 0; s <= 32; s++) {
                due.is("put(" + what + ", " + s + ", 0, ..)", x.put(what, s, 0, placeMark(what, s)), true);
            }
        }
        for (int what = 0; what < 2; what++) {
            for (int s = 0; s <= 32; s++) {
                due.is("sort(" + what + ", " + s + ")", x.sort(what, s), 0);
                due.is("quarters(" + what + ", " + s + ")", x.quarters(what, s), placeMark(what, s));
            }
        }
    }

    private static int placeMark(int what, int s) {
        return 1000 * (what + 1) + s;
    }

    private static void putEdgesOfQuarters() {
        TunerBench x = new TunerBench();
        int[] taken = {-40000, -39999, -1, 0, 1, 39999, 40000};
        for (int q : taken) {
            due.is("put(1, 32, 0, " + q + ")", x.put(1, 32, 0, q), true);
            due.is("sort(1, 32) of " + q, x.sort(1, 32), 0);
            due.is("quarters(1, 32) of " + q, x.quarters(1, 32), q);
        }
        int[] refused = {-40001, 40001, 40002, 40003, -40002, Integer.MIN_VALUE, Integer.MAX_VALUE};
        for (int q : refused) {
            due.is("put(1, 32, 0, " + q + ")", x.put(1, 32, 0, q), false);
            due.is("quarters(1, 32) after a refused " + q, x.quarters(1, 32), 40000);
        }
    }

    private static void quartersCountForSortNoughtAlone() {
        TunerBench x = new TunerBench();
        int[] any = {40001, -40001, Integer.MIN_VALUE, Integer.MAX_VALUE};
        for (int q : any) {
            for (int sort = 1; sort <= 4; sort++) {
                due.is("put(0, 0, " + sort + ", " + q + ")", x.put(0, 0, sort, q), true);
                due.is("sort(0, 0)", x.sort(0, 0), sort);
                due.is("quarters(0, 0)", x.quarters(0, 0), 0);
            }
        }
    }

    private static void putRefused() {
        TunerBench x = new TunerBench();
        x.put(0, 0, 0, 9);
        x.put(1, 32, 0, 9);
        for (int what : NO_WHATS) {
            due.is("put(" + what + ", 0, 3, 0)", x.put(what, 0, 3, 0), false);
        }
        for (int s : NO_STRINGS_NOR_FORK) {
            due.is("put(0, " + s + ", 3, 0)", x.put(0, s, 3, 0), false);
        }
        int[] noSorts = {-1, 5, Integer.MIN_VALUE, Integer.MAX_VALUE};
        for (int sort : noSorts) {
            due.is("put(0, 0, " + sort + ", 0)", x.put(0, 0, sort, 0), false);
        }
        due.is("quarters(0, 0) after refusals", x.quarters(0, 0), 9);
        due.is("quarters(1, 32) after refusals", x.quarters(1, 32), 9);
        for (int s = 1; s <= 32; s++) {
            due.is("sort(0, " + s + ") after refusals", x.sort(0, s), 1);
        }
    }

    private static void readingRefused() {
        TunerBench x = new TunerBench();
        x.put(0, 0, 0, 9);
        for (int what : NO_WHATS) {
            due.is("sort(" + what + ", 0)", x.sort(what, 0), -1);
            due.is("quarters(" + what + ", 0)", x.quarters(what, 0), 0);
        }
        for (int s : NO_STRINGS_NOR_FORK) {
            due.is("sort(0, " + s + ")", x.sort(0, s), -1);
            due.is("quarters(0, " + s + ")", x.quarters(0, s), 0);
        }
    }
}
