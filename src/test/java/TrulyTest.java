/** Promises 16 to 24: likely, truly, agreed, believe, wrong, enough, plan, open, sum. */
public final class TrulyTest {
    private static final String ONE = "bank;clerk 7;bundle 98 102;";

    public static void main(String[] args) {
        likelyByLimits();
        likelyByBand();
        likelyByCounts();
        likelyAtTheEdges();
        truly();
        agreed();
        believe();
        wrong();
        enough();
        plan();
        open();
        sum();
        wholeBankOfEightCounts();
        Check.finish("TrulyTest");
    }

    private static void likely(ThriceCounted x, int bundle, int n, long above, long below) {
        String call = "likely(" + bundle + ", " + n + ")";
        Check.due(call, x.likely(bundle, n), 1);
        Check.fraction(call, x, above, below);
    }

    private static ThriceCounted impossible() {
        return Check.readNew("bank;clerk 7;bundle 98 98;bundle 90 95;count 0 0 0 80;");
    }

    private static void likelyByLimits() {
        ThriceCounted x = Check.readNew(ONE);
        likely(x, 0, 90, 0, 1);
        likely(x, 0, 97, 0, 1);
        likely(x, 0, 98, 1, 5);
        likely(x, 0, 102, 1, 5);
        likely(x, 0, 103, 0, 1);
        likely(x, 0, 110, 0, 1);
        Check.bad("likely(1, 98)", x, () -> x.likely(1, 98));
        Check.bad("likely(-1, 98)", x, () -> x.likely(-1, 98));
        Check.bad("likely(0, 89)", x, () -> x.likely(0, 89));
        Check.bad("likely(0, 111)", x, () -> x.likely(0, 111));
        ThriceCounted y = impossible();
        y.likely(1, 90);
        Check.no("no number can be", y, () -> y.likely(0, 98));
        Check.bad("BAD ahead of NO", y, () -> y.likely(0, 89));
    }

    private static void likelyByBand() {
        ThriceCounted x = Check.readNew(ONE + "band 0 100 0;");
        likely(x, 0, 100, 7, 10);
        likely(x, 0, 98, 3, 40);
        likely(x, 0, 97, 0, 1);
        x.band(0, 97, 0);
        likely(x, 0, 98, 1, 5);
        x.band(0, 103, 0);
        likely(x, 0, 98, 1, 5);
        x.clerk(10);
        x.band(0, 98, 1);
        likely(x, 0, 98, 1, 1);
        likely(x, 0, 99, 0, 1);
        x.clerk(0);
        x.band(0, 102, 2);
        likely(x, 0, 102, 0, 1);
        likely(x, 0, 98, 1, 4);
        x.bundle(100, 100);
        x.band(1, 100, 2);
        likely(x, 1, 100, 1, 1);
    }

    private static void likelyByCounts() {
        ThriceCounted x = Check.readNew(ONE + "count 0 0 0 100;");
        likely(x, 0, 99, 1, 20);
        likely(x, 0, 100, 17, 20);
        likely(x, 0, 101, 1, 10);
        x.tell(0, 2, 0, 102);
        likely(x, 0, 99, 0, 1);
        likely(x, 0, 100, 17, 19);
        likely(x, 0, 101, 2, 19);
        ThriceCounted y = Check.readNew(ONE + "count 0 1 0 97;");
        likely(y, 0, 98, 2, 3);
        likely(y, 0, 102, 1, 3);
    }

    private static void likelyAtTheEdges() {
        ThriceCounted x = Check.readNew("bank;clerk 5;bundle 90 91;bundle 109 110;bundle 90 90;");
        x.tell(0, 0, 0, 90);
        likely(x, 0, 90, 17, 19);
        likely(x, 0, 91, 2, 19);
        x.tell(0, 0, 0, 89);
        likely(x, 0, 90, 1, 1);
        Check.due("90 alone", x.truly(0, 1), 1);
        x.tell(1, 2, 0, 110);
        likely(x, 1, 110, 8, 11);
        x.tell(1, 2, 0, 111);
        likely(x, 1, 110, 8, 11);
        x.tell(1, 2, 0, 112);
        likely(x, 1, 110, 1, 1);
        x.tell(2, 1, 0, 85);
        likely(x, 2, 90, 1, 1);
    }

    private static void truly() {
        ThriceCounted x = Check.readNew(ONE + "bundle 90 110;count 1 3 0 100;");
        Check.due("of like ones the least", x.truly(0, 0), 98);
        Check.due("can be", x.truly(0, 1), 5);
        Check.due("told", x.truly(1, 0), 100);
        Check.due("can be by height", x.truly(1, 1), 7);
        x.tell(0, 0, 0, 97);
        Check.due("one too few", x.truly(0, 0), 98);
        Check.due("can be", x.truly(0, 1), 1);
        Check.bad("truly(2, 0)", x, () -> x.truly(2, 0));
        Check.bad("truly(-1, 0)", x, () -> x.truly(-1, 0));
        Check.bad("truly(0, 2)", x, () -> x.truly(0, 2));
        Check.bad("truly(0, -1)", x, () -> x.truly(0, -1));
        ThriceCounted y = impossible();
        Check.unchanged("truly of none", y, -1, () -> y.truly(0, 0));
        Check.unchanged("none can be", y, 0, () -> y.truly(0, 1));
    }

    private static void agreed() {
        ThriceCounted x = Check.readNew(ONE + "bundle 90 110;");
        Check.unchanged("no counts", x, -1, () -> x.agreed(0));
        x.tell(0, 0, 0, 100);
        x.tell(1, 0, 0, 100);
        Check.due("one each", x.agreed(0), -1);
        x.tell(0, 1, 0, 101);
        x.tell(0, 2, 0, 100);
        Check.due("not one behind the other", x.agreed(0), -1);
        x.tell(1, 5, 0, 100);
        Check.due("those of others are not between", x.agreed(1), 100);
        x.tell(0, 0, 0, 100);
        x.tell(0, 0, 0, 99);
        x.tell(0, 0, 0, 99);
        Check.due("the first number", x.agreed(0), 100);
        x.back(0);
        x.back(2);
        Check.due("taken back", x.agreed(0), 99);
        ThriceCounted y = Check.readNew(ONE + "count 0 0 0 80;count 0 1 0 80;count 0 1 0 81;");
        Check.due("the first two", y.agreed(0), 80);
        Check.bad("agreed(2)", x, () -> x.agreed(2));
        Check.bad("agreed(-1)", x, () -> x.agreed(-1));
    }

    private static void believe() {
        ThriceCounted x = Check.readNew("bank;clerk 5;clerk 5;clerk 5;bundle 90 110;bundle 98 98;");
        Check.unchanged("no counts", x, -1, x::believe);
        x.tell(0, 0, 0, 101);
        x.tell(0, 0, 2, 100);
        x.tell(0, 0, 2, 100);
        Check.due("most right", x.believe(), 2);
        x.tell(1, 0, 2, 80);
        x.tell(1, 0, 2, 80);
        Check.due("who told none: 0, the first of like ones", x.believe(), 1);
        x.tell(1, 0, 1, 80);
        Check.due("less those that did not", x.believe(), 2);
        ThriceCounted y = Check.readNew("bank;clerk 5;bundle 98 98;count 0 0 0 80;");
        Check.due("one alone, below 0", y.believe(), 0);
    }

    private static void wrong() {
        ThriceCounted x = Check.readNew(ONE + "count 0 0 0 100;");
        Check.due("wrong(0)", x.wrong(0), 1);
        Check.fraction("wrong(0)", x, 3, 20);
        x.tell(0, 1, 0, 96);
        Check.due("wrong(1)", x.wrong(1), 1);
        Check.fraction("another than any can be", x, 1, 1);
        ThriceCounted w = Check.readNew("bank;clerk 5;bundle 90 92;bundle 108 110;count 0 0 0 89;count 1 0 0 111;");
        Check.due("told below 90", w.wrong(0), 1);
        Check.fraction("told below 90", w, 1, 1);
        w.likely(0, 92);
        Check.due("told above 110", w.wrong(1), 1);
        Check.fraction("told above 110", w, 1, 1);
        w.bundle(90, 91);
        w.tell(2, 0, 0, 90);
        Check.due("told 90", w.wrong(2), 1);
        Check.fraction("told 90", w, 2, 19);
        ThriceCounted y = Check.readNew("bank;clerk 5;bundle 99 99;count 0 0 0 99;");
        Check.due("wrong(0)", y.wrong(0), 1);
        Check.fraction("never wrong", y, 0, 1);
        Check.bad("wrong(1)", y, () -> y.wrong(1));
        Check.bad("wrong(-1)", y, () -> y.wrong(-1));
        ThriceCounted z = impossible();
        Check.no("no number can be", z, () -> z.wrong(0));
    }

    private static void enough() {
        ThriceCounted x = Check.readNew("bank;clerk 5;bundle 99 100;bundle 90 109;bundle 99 99;count 2 0 0 80;");
        Check.unchanged("half is 5 of 10", x, 0, () -> x.enough(0, 0, 5));
        Check.due("one more", x.enough(0, 0, 6), 1);
        Check.due("17 of 19, 289 of 293", x.enough(0, 0, 9), 2);
        Check.due("by weight 8 of 11, 64 of 73, 512 of 539", x.enough(0, 2, 9), 3);
        Check.due("8 of 11", x.enough(0, 2, 7), 1);
        Check.due("by height, of twenty", x.enough(1, 3, 9), -1);
        x.bundle(99, 101);
        Check.due("4 of 10", x.enough(3, 3, 4), 1);
        Check.due("16 of 34, 64 of 118", x.enough(3, 3, 5), 3);
        Check.due("three at most: by four 256 of 418", x.enough(3, 3, 6), -1);
        Check.unchanged("none can be", x, -1, () -> x.enough(2, 0, 1));
        Check.bad("enough(4, 0, 1)", x, () -> x.enough(4, 0, 1));
        Check.bad("enough(-1, 0, 1)", x, () -> x.enough(-1, 0, 1));
        Check.bad("enough(0, 6, 1)", x, () -> x.enough(0, 6, 1));
        Check.bad("enough(0, -1, 1)", x, () -> x.enough(0, -1, 1));
        Check.bad("enough(0, 0, 0)", x, () -> x.enough(0, 0, 0));
        Check.bad("enough(0, 0, 10)", x, () -> x.enough(0, 0, 10));
    }

    private static void plan(ThriceCounted x, int bundle, int m, int due, long above, long below) {
        String call = "plan(" + bundle + ", " + m + ")";
        Check.due(call, x.plan(bundle, m), due);
        Check.fraction(call, x, above, below);
    }

    private static void plan() {
        ThriceCounted x = Check.readNew("bank;clerk 5;bundle 99 100;bundle 99 99;bundle 99 99;count 2 0 0 80;");
        plan(x, 0, 0, 0, 1, 2);
        plan(x, 0, 1, 1, 8, 11);
        plan(x, 0, 2, 2, 64, 73);
        plan(x, 0, 3, 3, 512, 539);
        plan(x, 0, 4, 11, 64, 67);
        plan(x, 0, 5, 12, 512, 521);
        plan(x, 1, 30, 0, 1, 1);
        Check.no("no number can be", x, () -> x.plan(2, 30));
        Check.bad("plan(3, 0)", x, () -> x.plan(3, 0));
        Check.bad("plan(-1, 0)", x, () -> x.plan(-1, 0));
        Check.bad("plan(0, -1)", x, () -> x.plan(0, -1));
        Check.bad("plan(0, 31)", x, () -> x.plan(0, 31));
        Check.bad("BAD ahead of NO", x, () -> x.plan(2, 31));
    }

    private static void open() {
        ThriceCounted x = Check.readNew("bank;clerk 0;clerk 10;bundle 90 110;bundle 90 110;bundle 90 110;"
                + "bundle 99 99;bundle 90 110;");
        Check.unchanged("no bands", x, 0, x::open);
        x.band(0, 90, 0);
        x.band(1, 95, 1);
        x.band(3, 99, 1);
        x.band(4, 110, 0);
        Check.unchanged("bits", x, 17, x::open);
        x.tell(3, 0, 0, 80);
        x.band(3, 98, 0);
        Check.due("what is truly in it is none", x.open(), 17);
        x.back(0);
        Check.due("a band out of the limits", x.open(), 25);
    }

    private static void sum() {
        ThriceCounted x = new ThriceCounted();
        Check.unchanged("no bundles", x, 0, x::sum);
        x.clerk(5);
        x.bundle(90, 110);
        x.bundle(99, 99);
        Check.unchanged("both", x, 189, x::sum);
        x.tell(1, 0, 0, 80);
        Check.unchanged("one has none", x, -1, x::sum);
    }

    /** Eight counts by ones and a band of full trust but one: far beyond what an int holds, exactly. */
    private static void wholeBankOfEightCounts() {
        ThriceCounted x = Check.readNew("bank;clerk 9;bundle 90 110;band 0 100 0;");
        for (int i = 0; i < 8; i++) {
            x.tell(0, 0, 0, i % 2 == 0 ? 100 : 101);
        }
        // 100: 180 by 17^4 by 1; 101: 1 by 2^4 by 17^4; in lowest terms 45 by 49.
        likely(x, 0, 100, 45, 49);
        likely(x, 0, 101, 4, 49);
        plan(x, 0, 15, 300, 45L * 4913, 45L * 4913 + 4L * 8);
    }
}
