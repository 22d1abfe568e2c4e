/** The boundary cases that promises 1 to 17 name, one test for each sentence. */
public final class BoundaryPromisesTest {
    private static final int FORK = 32;

    private static final Due due = new Due();

    public static void main(String[] args) {
        promise1AllIsNone();
        promise2QuartersCountForSort0Alone();
        promise2SortsAre0To4();
        promise2PutReplaces();
        promise3SortOfEach();
        promise4NoughtWhereTheSortIsAnother();
        promise4NoughtWhereThereIsNoneSuch();
        promise5TheLatestTruth();
        promise6OneDenialMore();
        promise7ItselfOrTheOther();
        promise8AtMost31();
        promise8FromTheStringItself();
        promise9NoneWithoutOne();
        promise9FromTheStringItself();
        promise10String0AtFirst();
        promise10TheLastOneToo();
        promise10HeldAgainstTheOneThereIs();
        promise11FromSToTLessOne();
        promise11NoneIfSIsAboveT();
        promise11CarriesOneAlong();
        promise11ThisWhatAlone();
        promise12EachPart();
        promise12AtItsEdges();
        promise13GuardsAre0To7();
        promise13SetAnew();
        promise13ACopy();
        promise13Mode0And1();
        promise13Mode2AheadOfItsFirstLook();
        promise13Mode2SinceTheLatestLook();
        promise14NoneAndAllSet();
        promise15HowOftenOrNone();
        promise16BothValuesFromNowOn();
        promise17NoneAheadOfAny();
        promise17NoneForOthers();
        due.end();
    }

    /** Pitches 0, 1, 2 .. 31 of the STRINGS; the FORK has NONE. */
    private static TunerBench risingRow() {
        TunerBench x = new TunerBench();
        for (int s = 0; s < 32; s++) {
            x.put(0, s, 0, s);
        }
        return x;
    }

    private static String pitches(TunerBench x, int from, int to) {
        StringBuilder text = new StringBuilder();
        for (int s = from; s <= to; s++) {
            text.append(s == from ? "" : " ").append(x.sort(0, s) == 0 ? "" : "sort" + x.sort(0, s) + ":");
            text.append(x.quarters(0, s));
        }
        return text.toString();
    }

    private static void promise1AllIsNone() {
        TunerBench x = new TunerBench();
        due.is("1: look of no GUARD", x.look(), 0);
        for (int g = 0; g < 8; g++) {
            due.is("1: no GUARD is set, rings(" + g + ")", x.rings(g), -1);
        }
        due.is("1: count(0)", x.count(0), 0);
        due.is("1: count(1)", x.count(1), -1);
        due.is("1: count(2)", x.count(2), 0);
        due.is("1: count(3)", x.count(3), 0);
        due.is("1: all are NONE, climb", x.climb(0, 5, 0), 31);
        due.is("1: all are NONE, climb", x.climb(1, 4, 0), 0);
    }

    private static void promise2QuartersCountForSort0Alone() {
        TunerBench x = new TunerBench();
        int[] any = {-40001, 40001, Integer.MIN_VALUE, Integer.MAX_VALUE};
        for (int sort = 1; sort <= 4; sort++) {
            for (int q : any) {
                due.is("2: put of sort " + sort + ", q " + q, x.put(0, 31, sort, q), true);
                due.is("2: sort after sort " + sort + ", q " + q, x.sort(0, 31), sort);
                due.is("2: quarters after sort " + sort + ", q " + q, x.quarters(0, 31), 0);
            }
        }
        for (int q : any) {
            due.is("2: put of sort 0, q " + q, x.put(0, 31, 0, q), false);
            due.is("2: sort after sort 0, q " + q, x.sort(0, 31), 4);
        }
    }

    private static void promise2SortsAre0To4() {
        TunerBench x = new TunerBench();
        due.is("2: put of sort 4", x.put(1, 0, 4, 0), true);
        due.is("2: put of sort 5", x.put(1, 0, 5, 0), false);
        due.is("2: put of sort 0", x.put(1, 0, 0, 1), true);
        due.is("2: put of sort -1", x.put(1, 0, -1, 0), false);
        due.is("2: quarters then", x.quarters(1, 0), 1);
    }

    private static void promise2PutReplaces() {
        TunerBench x = new TunerBench();
        for (int before = 0; before <= 4; before++) {
            for (int after = 0; after <= 4; after++) {
                x.put(0, FORK, before, 3);
                due.is("2: put of sort " + after + " over " + before, x.put(0, FORK, after, 4), true);
                due.is("2: sort " + after + " over " + before, x.sort(0, FORK), after);
                due.is("2: quarters, sort " + after + " over " + before, x.quarters(0, FORK), after == 0 ? 4 : 0);
            }
        }
    }

    private static void promise3SortOfEach() {
        TunerBench x = new TunerBench();
        int[] places = {0, 31, FORK};
        for (int s : places) {
            for (int sort = 0; sort <= 4; sort++) {
                x.put(1, s, sort, 0);
                due.is("3: sort of " + s + " put as " + sort, x.sort(1, s), sort);
            }
        }
    }

    private static void promise4NoughtWhereTheSortIsAnother() {
        TunerBench x = new TunerBench();
        due.is("4: quarters of NONE at first", x.quarters(0, 0), 0);
        x.put(0, 0, 0, -1);
        due.is("4: quarters of -1", x.quarters(0, 0), -1);
        for (int sort = 1; sort <= 4; sort++) {
            x.put(0, 0, 0, 77);
            x.put(0, 0, sort, 77);
            due.is("4: quarters of sort " + sort, x.quarters(0, 0), 0);
        }
    }

    private static void promise4NoughtWhereThereIsNoneSuch() {
        TunerBench x = risingRow();
        x.put(0, 0, 0, 9);
        int[][] noneSuch = {{-1, 0}, {2, 0}, {0, -1}, {0, 33}, {2, 33}, {-1, -1}};
        for (int[] one : noneSuch) {
            due.is("4: quarters(" + one[0] + ", " + one[1] + ")", x.quarters(one[0], one[1]), 0);
        }
    }

    private static void promise5TheLatestTruth() {
        TunerBench x = risingRow();
        due.is("5: the LATEST truth ahead of any", x.count(1), -1);
        due.is("5: holds", x.holds(0, 0, 0, 31), 1);
        due.is("5: the LATEST truth", x.count(1), 1);
        due.is("5: holds", x.holds(0, 0, 31, 0), 0);
        due.is("5: the LATEST truth", x.count(1), 0);
        due.is("5: holds of the FORK, NONE", x.holds(0, 5, FORK, FORK), 1);
        due.is("5: holds refused", x.holds(0, 0, 31, 33), -1);
        due.is("5: the LATEST truth after a refusal", x.count(1), 1);
    }

    private static void promise6OneDenialMore() {
        TunerBench x = risingRow();
        due.is("6: denies what is so", x.denies(0, 0, 0, 31), 0);
        due.is("6: DENIALS", x.count(0), 0);
        due.is("6: denies what is not so", x.denies(0, 0, 31, 0), 1);
        due.is("6: DENIALS", x.count(0), 1);
        due.is("6: denying below is not at least: NONE", x.denies(0, 0, 0, FORK), 1);
        due.is("6: denying at least is not below: NONE", x.denies(0, 3, 0, FORK), 1);
        due.is("6: DENIALS", x.count(0), 3);
        due.is("6: denies refused", x.denies(0, 6, 31, 0), -1);
        due.is("6: DENIALS after a refusal", x.count(0), 3);
    }

    private static void promise7ItselfOrTheOther() {
        TunerBench x = risingRow();
        due.is("7: pick the first", x.pick(0, 2, 31, 0), 31);
        due.is("7: pick the second", x.pick(0, 2, 0, 31), 31);
        due.is("7: pick of equal ones", x.pick(0, 1, 4, 4), 4);
        due.is("7: pick against NONE", x.pick(0, 2, 31, FORK), FORK);
        due.is("7: pick against NONE", x.pick(0, 5, 31, FORK), 31);
        due.is("7: pick of NONE", x.pick(0, 2, FORK, 31), 31);
        due.is("7: pick changes no count", x.count(0), 0);
        due.is("7: pick changes no LATEST truth", x.count(1), -1);
    }

    private static void promise8AtMost31() {
        TunerBench x = risingRow();
        x.put(0, FORK, 0, 32);
        x.put(1, 0, 0, -1);
        due.is("8: at most 31, from 0", x.climb(0, 0, 0), 31);
        due.is("8: at most 31, from 30", x.climb(0, 0, 30), 31);
        due.is("8: at most 31, from 31", x.climb(0, 0, 31), 31);
        due.is("8: no further than it STANDS so", x.climb(0, 2, 31), 31);
    }

    private static void promise8FromTheStringItself() {
        TunerBench x = risingRow();
        x.put(0, 10, 1, 0);
        due.is("8: as long as, from 0", x.climb(0, 0, 0), 9);
        due.is("8: as long as, from the last ahead of NONE", x.climb(0, 0, 9), 9);
        due.is("8: as long as, from NONE", x.climb(0, 0, 10), 10);
        due.is("8: as long as, from the next", x.climb(0, 0, 11), 31);
        due.is("8: unequal to NONE too", x.climb(0, 5, 0), 31);
        due.is("8: none come to", x.climb(0, 3, 0), 0);
    }

    private static void promise9NoneWithoutOne() {
        TunerBench x = risingRow();
        x.put(0, FORK, 0, 32);
        due.is("9: NONE without one", x.first(0, 3, 0, false), -1);
        due.is("9: NONE without one that does not", x.first(0, 0, 0, true), -1);
        x.put(0, FORK, 0, 31);
        due.is("9: the last one alone", x.first(0, 3, 0, false), 31);
        due.is("9: the last one alone that does not", x.first(0, 0, 0, true), 31);
        x.put(0, FORK, 0, 5);
        due.is("9: none from there on", x.first(0, 4, 6, false), -1);
    }

    private static void promise9FromTheStringItself() {
        TunerBench x = risingRow();
        x.put(0, FORK, 0, 5);
        due.is("9: STRING s itself", x.first(0, 4, 5, false), 5);
        due.is("9: STRING 31 itself", x.first(0, 5, 31, false), 31);
        due.is("9: STRING 0 itself", x.first(0, 0, 0, false), 0);
        due.is("9: not so, STRING s itself", x.first(0, 0, 5, true), 5);
        x.put(0, 2, 1, 0);
        due.is("9: not so, NONE does not", x.first(0, 0, 0, true), 2);
    }

    private static void promise10String0AtFirst() {
        TunerBench x = risingRow();
        due.is("10: STRING 0 left, none is below it", x.best(0, 0, false), 0);
        due.is("10: STRING 0 left, each is above it", x.best(0, 2, true), 0);
        x.put(0, 0, 1, 0);
        due.is("10: STRING 0 of NONE left", x.best(0, 2, false), 0);
        due.is("10: STRING 0 of NONE left, isNot", x.best(0, 5, true), 0);
        due.is("10: STRING 0 of NONE not left", x.best(0, 2, true), 1);
    }

    private static void promise10TheLastOneToo() {
        TunerBench x = risingRow();
        due.is("10: the last one", x.best(0, 2, false), 31);
        due.is("10: the last one, isNot", x.best(0, 0, true), 31);
        x.put(0, FORK, 3, 0);
        due.is("10: never the FORK", x.best(0, 2, false), 31);
        x.put(0, 31, 1, 0);
        due.is("10: the last one of NONE", x.best(0, 2, false), 30);
        due.is("10: the last one of NONE, isNot", x.best(0, 1, true), 31);
    }

    private static void promise10HeldAgainstTheOneThereIs() {
        TunerBench x = risingRow();
        x.put(0, 5, 1, 0);
        // STRING 5, of NONE, is not at least STRING 0, and 6 is not at least NONE; after 6 each one is at least 6.
        due.is("10: in order, against the one there is", x.best(0, 3, true), 6);
        x.put(0, 7, 0, 6);
        due.is("10: an equal one takes no place", x.best(0, 3, true), 6);
        due.is("10: an equal one takes its place", x.best(0, 2, true), 7);
    }

    private static void promise11FromSToTLessOne() {
        TunerBench x = risingRow();
        due.is("11: s is t, at 0", x.pass(0, 2, 0, 0), 0);
        due.is("11: s is t, at 31", x.pass(0, 2, 31, 31), 0);
        due.is("11: the last two", x.pass(0, 2, 30, 31), 1);
        due.is("11: the last two", pitches(x, 29, 31), "29 31 30");
        due.is("11: the first two", x.pass(0, 2, 0, 1), 1);
        due.is("11: the first two", pitches(x, 0, 2), "1 0 2");
        due.is("11: the FORK stays", x.sort(0, FORK), 1);
        due.is("11: how often VALUES changed places", x.count(3), 2);
    }

    private static void promise11NoneIfSIsAboveT() {
        TunerBench x = risingRow();
        due.is("11: s is above t", x.pass(0, 2, 1, 0), -1);
        due.is("11: s is above t", x.pass(0, 2, 31, 0), -1);
        due.is("11: s is above t", pitches(x, 0, 1), "0 1");
        due.is("11: how often VALUES changed places", x.count(3), 0);
    }

    private static void promise11CarriesOneAlong() {
        TunerBench x = risingRow();
        due.is("11: the whole row", x.pass(0, 2, 0, 31), 31);
        due.is("11: the whole row", pitches(x, 0, 3), "1 2 3 4");
        due.is("11: the whole row", pitches(x, 29, 31), "30 31 0");
        x.put(0, 1, 1, 0);
        due.is("11: NONE does not STAND so", x.pass(0, 1, 0, 3), 1);
        due.is("11: NONE does not STAND so", pitches(x, 0, 3), "sort1:0 1 3 4");
        due.is("11: how often VALUES changed places", x.count(3), 32);
        due.is("11: equal ones that are not below", x.put(0, 2, 0, 1), true);
        due.is("11: equal ones change places too", x.pass(0, 0, 1, 2), 1);
        due.is("11: how often VALUES changed places", x.count(3), 33);
    }

    private static void promise11ThisWhatAlone() {
        TunerBench x = risingRow();
        x.put(1, 0, 0, -4);
        x.put(1, 1, 2, 0);
        x.pass(0, 2, 0, 31);
        due.is("11: VALUES of this WHAT", x.quarters(1, 0), -4);
        due.is("11: VALUES of this WHAT", x.sort(1, 1), 2);
        due.is("11: VALUES of this WHAT", x.sort(1, 31), 1);
        due.is("11: pass of the TENSIONS", x.pass(1, 2, 0, 1), 1);
        due.is("11: the TENSIONS", x.sort(1, 0), 2);
        due.is("11: the TENSIONS", x.quarters(1, 1), -4);
        due.is("11: the PITCHES", pitches(x, 0, 1), "1 2");
    }

    private static int within(int sort, int q, int low, int high) {
        TunerBench x = new TunerBench();
        x.put(1, 0, sort, q);
        x.put(1, 30, 0, low);
        x.put(1, FORK, 0, high);
        return x.within(1, 0, 30, FORK);
    }

    private static void promise12EachPart() {
        due.is("12: 1 and 2", within(0, 5, 4, 6), 3);
        due.is("12: 4", within(0, 7, 4, 6), 4);
        due.is("12: 2 and 8, of NONE", within(1, 0, 4, 6), 10);
        TunerBench x = risingRow();
        due.is("12: 2 alone, both NONE", x.within(0, 5, FORK, FORK), 2);
        due.is("12: 2 alone, low NONE", x.within(0, 5, FORK, 6), 2);
        due.is("12: 2 alone, high NONE", x.within(0, 5, 4, FORK), 2);
        due.is("12: 4 alone, low NONE", x.within(0, 5, FORK, 4), 4);
        due.is("12: 4 alone, high NONE", x.within(0, 5, 6, FORK), 4);
    }

    private static void promise12AtItsEdges() {
        due.is("12: at low", within(0, 4, 4, 6), 3);
        due.is("12: just below low", within(0, 3, 4, 6), 4);
        due.is("12: at high", within(0, 6, 4, 6), 3);
        due.is("12: just above high", within(0, 7, 4, 6), 4);
        due.is("12: at both", within(0, 4, 4, 4), 3);
        due.is("12: low above high", within(0, 5, 6, 4), 4);
        due.is("12: low above high, at low", within(0, 6, 6, 4), 4);
        due.is("12: MINUS NOUGHT at both", within(2, 0, 0, 0), 3);
        due.is("12: ABOVE ALL", within(3, 0, -40000, 40000), 4);
        due.is("12: BELOW ALL", within(4, 0, -40000, 40000), 4);
    }

    private static void promise13GuardsAre0To7() {
        TunerBench x = new TunerBench();
        due.is("13: GUARD 0", x.guard(0, 0, 5, 0, 0), true);
        due.is("13: GUARD 7", x.guard(7, 1, 5, 31, 2), true);
        due.is("13: GUARD -1", x.guard(-1, 0, 5, 0, 0), false);
        due.is("13: GUARD 8", x.guard(8, 0, 5, 0, 0), false);
        due.is("13: MODE -1", x.guard(1, 0, 5, 0, -1), false);
        due.is("13: MODE 3", x.guard(1, 0, 5, 0, 3), false);
        due.is("13: how many are set", x.count(2), 2);
        due.is("13: look", x.look(), 129);
    }

    private static void promise13SetAnew() {
        TunerBench x = risingRow();
        x.put(0, FORK, 0, 5);
        x.guard(3, 0, 4, 5, 2);
        due.is("13: look", x.look(), 8);
        due.is("13: rings", x.rings(3), 1);
        due.is("13: look again, no change", x.look(), 0);
        due.is("13: set anew", x.guard(3, 0, 4, 5, 2), true);
        due.is("13: never having rung", x.rings(3), 0);
        due.is("13: anew ahead of its first look", x.look(), 8);
        due.is("13: set anew with all else another", x.guard(3, 1, 5, 5, 1), true);
        due.is("13: never having rung", x.rings(3), 0);
        due.is("13: of the other WHAT and HOW, NONE is unequal", x.look(), 0);
        due.is("13: set once", x.count(2), 1);
    }

    private static void promise13ACopy() {
        TunerBench x = risingRow();
        x.put(0, FORK, 0, 5);
        x.guard(0, 0, 4, 5, 0);
        x.put(0, 5, 1, 0);
        due.is("13: a copy, the STRING has NONE now", x.look(), 1);
        x.pass(0, 4, 0, 31);
        due.is("13: a copy, the row has changed places", x.look(), 1);
        x.strike(9);
        due.is("13: a copy, the FORK has another VALUE", x.look(), 0);
        x.put(1, 31, 0, 8);
        x.put(1, FORK, 0, 8);
        x.guard(0, 1, 4, 31, 0);
        due.is("13: a copy of the TENSION", x.look(), 1);
    }

    private static void promise13Mode0And1() {
        TunerBench x = new TunerBench();
        x.guard(0, 0, 3, 0, 0);
        x.guard(1, 0, 3, 0, 1);
        x.guard(2, 0, 0, 0, 0);
        x.guard(3, 0, 0, 0, 1);
        x.guard(4, 0, 5, 0, 0);
        x.guard(5, 0, 5, 0, 1);
        due.is("13: MODES 0 and 1 of NONE", x.look(), 2 + 8 + 16);
        due.is("13: MODES 0 and 1 of NONE, again", x.look(), 2 + 8 + 16);
        due.is("13: rings of MODE 0", x.rings(0), 0);
        due.is("13: rings of MODE 1", x.rings(1), 2);
    }

    private static void promise13Mode2AheadOfItsFirstLook() {
        TunerBench x = risingRow();
        x.put(0, FORK, 0, 5);
        x.guard(0, 0, 4, 5, 2);
        x.guard(1, 0, 4, 6, 2);
        due.is("13: ahead of its first look it did not", x.look(), 1);
        due.is("13: rings of one that does", x.rings(0), 1);
        due.is("13: rings of one that does not", x.rings(1), 0);
    }

    private static void promise13Mode2SinceTheLatestLook() {
        TunerBench x = risingRow();
        x.guard(0, 0, 4, 5, 2);
        int[] forks = {5, 5, 6, 6, 7, 5, 6};
        int[] want = {1, 0, 1, 0, 0, 1, 1};
        for (int k = 0; k < forks.length; k++) {
            x.strike(forks[k]);
            due.is("13: MODE 2, look " + k, x.look(), want[k]);
        }
        due.is("13: MODE 2, rings", x.rings(0), 4);
        x.strike(5);
        x.strike(6);
        due.is("13: no look, no change", x.look(), 0);
    }

    private static void promise14NoneAndAllSet() {
        TunerBench x = new TunerBench();
        due.is("14: none is set", x.look(), 0);
        for (int g = 0; g < 8; g++) {
            x.guard(g, g % 2, 5, g, 0);
            due.is("14: GUARDS 0 .. " + g, x.look(), (2 << g) - 1);
        }
        due.is("14: all of them, again", x.look(), 255);
        x.guard(7, 0, 5, 0, 1);
        due.is("14: all but the last", x.look(), 127);
        x.guard(0, 0, 5, 0, 1);
        due.is("14: all but the first and the last", x.look(), 126);
    }

    private static void promise15HowOftenOrNone() {
        TunerBench x = new TunerBench();
        x.guard(4, 0, 5, 0, 0);
        due.is("15: not set, below", x.rings(3), -1);
        due.is("15: not set, above", x.rings(5), -1);
        due.is("15: never rang", x.rings(4), 0);
        x.look();
        x.look();
        due.is("15: rang", x.rings(4), 2);
        due.is("15: asking is no ringing", x.rings(4), 2);
        due.is("15: GUARD -1", x.rings(-1), -1);
        due.is("15: GUARD 8", x.rings(8), -1);
    }

    private static void promise16BothValuesFromNowOn() {
        TunerBench x = new TunerBench();
        x.put(0, 31, 2, 0);
        x.put(1, 31, 0, -40000);
        due.is("16: strike of 31", x.strike(31), true);
        due.is("16: the pitch", x.sort(0, FORK), 2);
        due.is("16: the tension", x.quarters(1, FORK), -40000);
        x.put(1, 31, 0, 1);
        due.is("16: the tension it had", x.quarters(1, FORK), -40000);
        due.is("16: strike of 0, NONE", x.strike(0), true);
        due.is("16: the pitch NONE", x.sort(0, FORK), 1);
        due.is("16: the tension NONE", x.sort(1, FORK), 1);
        due.is("16: the STRING keeps its own", x.sort(0, 31), 2);
        x.strike(31);
        due.is("16: strike of the FORK", x.strike(FORK), false);
        due.is("16: strike of -1", x.strike(-1), false);
        due.is("16: the pitch after refusals", x.sort(0, FORK), 2);
        due.is("16: the tension after refusals", x.quarters(1, FORK), 1);
    }

    private static void promise17NoneAheadOfAny() {
        TunerBench x = risingRow();
        x.denies(0, 0, 0, 1);
        x.pick(0, 0, 0, 1);
        x.climb(0, 0, 0);
        x.first(0, 0, 0, true);
        x.best(0, 0, true);
        x.pass(0, 0, 0, 31);
        x.within(0, 0, 1, 2);
        x.guard(0, 0, 0, 0, 0);
        x.look();
        x.strike(0);
        due.is("17: NONE ahead of any holds", x.count(1), -1);
        x.holds(0, 4, 0, 1);
        due.is("17: 0 after a holds that is not so", x.count(1), 0);
    }

    private static void promise17NoneForOthers() {
        TunerBench x = new TunerBench();
        x.holds(0, 5, 0, 0);
        x.denies(0, 4, 0, 0);
        x.guard(0, 0, 0, 0, 0);
        x.pass(0, 0, 0, 1);
        for (int which = 0; which <= 3; which++) {
            due.is("17: count(" + which + ")", x.count(which), 1);
        }
        due.is("17: count(-1)", x.count(-1), -1);
        due.is("17: count(4)", x.count(4), -1);
    }
}
