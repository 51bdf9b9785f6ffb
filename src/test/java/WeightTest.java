/** Promises 16 and 17: WEIGHT, LIKELY, TRULY, CAN BE. */
public final class WeightTest {
    private static final String ONE = "bank;clerk 7;bundle 98 102;";

    public static void main(String[] args) {
        eachNumberAlikeAtFirst();
        aloneOrOutsideLowToHigh();
        bandAtLowAndHigh();
        bandBelowLowAndAboveHigh();
        bandWhereHighIsAboveLow();
        trustOfTenAndOfNone();
        lastBandAndItsTrust();
        countsOfEachBundleAlone();
        countsMultiply();
        offByEachEndOfAWay();
        toldFarOutside();
        numbersAtTheEnds();
        eightCountsExactly();
        noNumberCanBe();
        likelyIsInLowestTerms();
        trulyOfLikeOnesTheLeast();
        trulyByTheGreatestWeight();
        canBe();
        numbersThatAreBad();
        Check.finish("WeightTest");
    }

    private static void likely(ThriceCounted x, int bundle, int n, long above, long below) {
        String call = "likely(" + bundle + ", " + n + ")";
        Check.due(call, x.likely(bundle, n), 1);
        Check.fraction(call, x, above, below);
    }

    private static void truly(ThriceCounted x, int bundle, int n, int canBe) {
        Check.due("truly(" + bundle + ", 0)", x.truly(bundle, 0), n);
        Check.due("truly(" + bundle + ", 1)", x.truly(bundle, 1), canBe);
    }

    /** "each number alike likely at first". */
    private static void eachNumberAlikeAtFirst() {
        ThriceCounted x = Check.readNew("bank;bundle 90 110;bundle 98 102;");
        for (int n = 90; n <= 110; n++) {
            likely(x, 0, n, 1, 21);
        }
        for (int n = 98; n <= 102; n++) {
            likely(x, 1, n, 1, 5);
        }
    }

    /** "1, if n is LOW to HIGH, else 0". */
    private static void aloneOrOutsideLowToHigh() {
        ThriceCounted x = Check.readNew("bank;bundle 98 102;bundle 90 90;bundle 110 110;");
        likely(x, 0, 97, 0, 1);
        likely(x, 0, 103, 0, 1);
        likely(x, 0, 90, 0, 1);
        likely(x, 0, 110, 0, 1);
        likely(x, 1, 90, 1, 1);
        likely(x, 1, 91, 0, 1);
        likely(x, 2, 110, 1, 1);
        likely(x, 2, 109, 0, 1);
    }

    /** "if it has a BAND, whose number is LOW to HIGH": TRUST times (HIGH less LOW), else 10 less TRUST. */
    private static void bandAtLowAndHigh() {
        ThriceCounted x = Check.readNew(ONE + "bundle 90 110;clerk 1;");
        for (int said = 98; said <= 102; said++) {
            x.band(0, said, 0);
            for (int n = 98; n <= 102; n++) {
                likely(x, 0, n, n == said ? 7 : 3, n == said ? 10 : 40);
            }
            likely(x, 0, 97, 0, 1);
            likely(x, 0, 103, 0, 1);
        }
        x.band(1, 90, 1);
        likely(x, 1, 90, 1, 10);
        likely(x, 1, 110, 9, 200);
        x.band(1, 110, 0);
        likely(x, 1, 110, 7, 10);
        likely(x, 1, 90, 3, 200);
    }

    private static void bandBelowLowAndAboveHigh() {
        ThriceCounted x = Check.readNew(ONE + "clerk 10;clerk 0;");
        for (int clerk = 0; clerk <= 2; clerk++) {
            for (int said : new int[] {90, 97, 103, 110}) {
                x.band(0, said, clerk);
                likely(x, 0, 98, 1, 5);
                likely(x, 0, 102, 1, 5);
                likely(x, 0, said, 0, 1);
                truly(x, 0, 98, 5);
            }
        }
    }

    /** "and HIGH is above LOW". */
    private static void bandWhereHighIsAboveLow() {
        ThriceCounted x = Check.readNew("bank;clerk 6;clerk 0;clerk 10;bundle 99 100;bundle 100 100;");
        x.band(0, 99, 0);
        likely(x, 0, 99, 3, 5);
        likely(x, 0, 100, 2, 5);
        for (int clerk = 0; clerk <= 2; clerk++) {
            x.band(1, 100, clerk);
            likely(x, 1, 100, 1, 1);
            truly(x, 1, 100, 1);
            x.band(1, 99, clerk);
            likely(x, 1, 100, 1, 1);
            likely(x, 1, 99, 0, 1);
        }
    }

    private static void trustOfTenAndOfNone() {
        ThriceCounted x = Check.readNew(ONE + "clerk 10;clerk 0;clerk 5;");
        x.band(0, 102, 1);
        likely(x, 0, 102, 1, 1);
        likely(x, 0, 98, 0, 1);
        truly(x, 0, 102, 1);
        x.band(0, 98, 2);
        likely(x, 0, 98, 0, 1);
        likely(x, 0, 99, 1, 4);
        truly(x, 0, 99, 4);
        x.band(0, 98, 3);
        likely(x, 0, 98, 1, 2);
        likely(x, 0, 102, 1, 8);
        truly(x, 0, 98, 5);
    }

    private static void lastBandAndItsTrust() {
        ThriceCounted x = Check.readNew(ONE + "clerk 10;band 0 100 1;");
        likely(x, 0, 100, 1, 1);
        x.band(0, 100, 0);
        likely(x, 0, 100, 7, 10);
        x.band(0, 101, 0);
        likely(x, 0, 100, 3, 40);
    }

    /** "for each of its COUNTS". */
    private static void countsOfEachBundleAlone() {
        ThriceCounted x = Check.readNew(ONE + "bundle 98 102;count 0 0 0 100;");
        likely(x, 1, 100, 1, 5);
        likely(x, 0, 100, 17, 20);
        x.tell(1, 0, 0, 98);
        likely(x, 0, 100, 17, 20);
        x.back(0);
        likely(x, 0, 100, 1, 5);
        // Told 98: 17 for 98, off by -1 for 99.
        likely(x, 1, 98, 17, 19);
        likely(x, 1, 99, 2, 19);
    }

    private static void countsMultiply() {
        ThriceCounted x = Check.readNew(ONE + "count 0 0 0 100;");
        likely(x, 0, 99, 1, 20);
        likely(x, 0, 100, 17, 20);
        likely(x, 0, 101, 1, 10);
        x.tell(0, 2, 0, 102);
        likely(x, 0, 99, 0, 1);
        likely(x, 0, 100, 17, 19);
        likely(x, 0, 101, 2, 19);
        // By the band too: 100 by 7 * 4 * 17 * 3, 101 by 3 * 2 * 3.
        x.band(0, 100, 0);
        likely(x, 0, 100, 238, 241);
        likely(x, 0, 101, 3, 241);
    }

    /** The last number that each way can be off from what is told, and the first that it can not. */
    private static void offByEachEndOfAWay() {
        int[] fewest = {-1, -5, -2, -3, -1, -2};
        int[] most = {1, 1, 2, 3, 1, 1};
        for (int way = 0; way < 6; way++) {
            ThriceCounted x = Check.readNew("bank;clerk 5;bundle 90 110;");
            x.tell(0, way, 0, 100);
            for (int n = 90; n <= 110; n++) {
                x.likely(0, n);
                Check.due("way " + way + ": of 20 for " + n, x.part(0) * 20 / x.part(1), x.odds(way, 100 - n));
            }
            x.likely(0, 100 - most[way]);
            Check.due("way " + way + ": the most too many", x.part(0) > 0 ? 1 : 0, 1);
            likely(x, 0, 100 - most[way] - 1, 0, 1);
            x.likely(0, 100 - fewest[way]);
            Check.due("way " + way + ": the most too few", x.part(0) > 0 ? 1 : 0, 1);
            likely(x, 0, 100 - fewest[way] + 1, 0, 1);
        }
    }

    /** TOLD may be outside 90 .. 110; what is off by so much may be inside yet. */
    private static void toldFarOutside() {
        int[][] told = {{0, 89}, {1, 85}, {2, 88}, {3, 87}, {4, 89}, {5, 88}};
        for (int[] one : told) {
            ThriceCounted x = Check.readNew("bank;clerk 5;bundle 90 110;");
            x.tell(0, one[0], 0, one[1]);
            likely(x, 0, 90, 1, 1);
            x.undo();
            x.tell(0, one[0], 0, one[1] - 1);
            Check.no("told one less, way " + one[0], x, () -> x.likely(0, 90));
        }
        int[][] above = {{0, 111}, {1, 111}, {2, 112}, {3, 113}, {4, 111}, {5, 111}};
        for (int[] one : above) {
            ThriceCounted x = Check.readNew("bank;clerk 5;bundle 90 110;");
            x.tell(0, one[0], 0, one[1]);
            likely(x, 0, 110, 1, 1);
            x.undo();
            x.tell(0, one[0], 0, one[1] + 1);
            Check.no("told one more, way " + one[0], x, () -> x.likely(0, 110));
        }
        for (int told80or120 = 80; told80or120 <= 120; told80or120 += 40) {
            ThriceCounted x = Check.readNew("bank;clerk 5;bundle 90 110;");
            x.tell(0, 3, 0, told80or120);
            Check.no("told " + told80or120, x, () -> x.likely(0, 100));
        }
    }

    private static void numbersAtTheEnds() {
        ThriceCounted x = Check.readNew("bank;clerk 5;bundle 90 91;bundle 109 110;bundle 90 90;");
        x.tell(0, 0, 0, 90);
        likely(x, 0, 90, 17, 19);
        likely(x, 0, 91, 2, 19);
        x.tell(0, 0, 0, 89);
        likely(x, 0, 90, 1, 1);
        truly(x, 0, 90, 1);
        x.tell(1, 2, 0, 110);
        likely(x, 1, 110, 8, 11);
        x.tell(1, 2, 0, 111);
        likely(x, 1, 110, 8, 11);
        x.tell(1, 2, 0, 112);
        likely(x, 1, 110, 1, 1);
        x.tell(2, 1, 0, 85);
        likely(x, 2, 90, 1, 1);
    }

    /** Eight counts by ones and a band: far beyond what an int holds, exactly. */
    private static void eightCountsExactly() {
        ThriceCounted x = Check.readNew("bank;clerk 9;bundle 90 110;band 0 100 0;");
        for (int i = 0; i < 8; i++) {
            x.tell(0, 0, 0, i % 2 == 0 ? 100 : 101);
        }
        // 100: 180 by 17^4 by 1; 101: 1 by 2^4 by 17^4; in lowest terms 45 by 49.
        likely(x, 0, 100, 45, 49);
        likely(x, 0, 101, 4, 49);
        ThriceCounted y = Check.readNew("bank;clerk 9;bundle 90 110;band 0 100 0;");
        for (int i = 0; i < 8; i++) {
            y.tell(0, 0, 0, 100);
        }
        // 100: 180 by 17^8; 99: 1 by 1; 101: 1 by 2^8.
        likely(y, 0, 100, 180L * 6_975_757_441L, 180L * 6_975_757_441L + 257);
        likely(y, 0, 101, 256, 180L * 6_975_757_441L + 257);
        likely(y, 0, 99, 1, 180L * 6_975_757_441L + 257);
        likely(y, 0, 98, 0, 1);
    }

    /** "none: all are 0"; "NO: no number can be". */
    private static void noNumberCanBe() {
        ThriceCounted x = Check.readNew("bank;clerk 7;clerk 10;bundle 98 102;bundle 90 95;");
        x.likely(1, 90);
        x.tell(0, 0, 0, 104);
        Check.no("told too far from it", x, () -> x.likely(0, 102));
        Check.unchanged("truly of none", x, -1, () -> x.truly(0, 0));
        Check.unchanged("none can be", x, 0, () -> x.truly(0, 1));
        Check.bad("BAD ahead of NO", x, () -> x.likely(0, 89));
        likely(x, 1, 90, 1, 6);
        x.undo();
        x.tell(0, 0, 0, 99);
        x.tell(0, 0, 0, 102);
        Check.no("two that can not both be", x, () -> x.likely(0, 100));
        x.undo();
        x.band(0, 102, 1);
        Check.no("a band of full trust and a count that can not both be", x, () -> x.likely(0, 102));
        Check.unchanged("truly of none", x, -1, () -> x.truly(0, 0));
        x.band(0, 102, 0);
        truly(x, 0, 99, 3);
    }

    /** "lowest terms, below above 0". */
    private static void likelyIsInLowestTerms() {
        ThriceCounted x = Check.readNew(ONE + "count 0 2 0 100;count 0 2 0 100;");
        // 98: 9, 99: 9, 100: 64, 101: 9, 102: 9, of 100.
        likely(x, 0, 98, 9, 100);
        likely(x, 0, 100, 16, 25);
        likely(x, 0, 97, 0, 1);
    }

    /** "TRULY: the n of the greatest WEIGHT; of like ones the least". */
    private static void trulyOfLikeOnesTheLeast() {
        ThriceCounted x = Check.readNew("bank;clerk 5;clerk 0;bundle 90 110;bundle 98 102;bundle 110 110;");
        truly(x, 0, 90, 21);
        truly(x, 1, 98, 5);
        truly(x, 2, 110, 1);
        x.band(0, 90, 1);
        truly(x, 0, 91, 20);
        // 100 and 101 by 8 * 3 alike, 99 and 102 by 3 * 3.
        x.tell(1, 2, 0, 100);
        x.tell(1, 2, 0, 101);
        truly(x, 1, 100, 4);
    }

    private static void trulyByTheGreatestWeight() {
        ThriceCounted x = Check.readNew(ONE + "count 0 0 0 101;");
        truly(x, 0, 101, 3);
        x.tell(0, 0, 0, 102);
        // 101: 17 * 1; 102: 2 * 17.
        truly(x, 0, 102, 2);
        x.tell(0, 0, 0, 100);
        // 101 alone: off by 0, by 1, by -1.
        truly(x, 0, 101, 1);
    }

    /** "CAN BE: how many n have one above 0". */
    private static void canBe() {
        ThriceCounted x = Check.readNew("bank;clerk 5;bundle 90 110;count 0 3 0 100;");
        truly(x, 0, 100, 7);
        x.tell(0, 3, 0, 103);
        Check.due("four of them", x.truly(0, 1), 4);
        x.tell(0, 3, 0, 106);
        Check.due("one of them", x.truly(0, 1), 1);
        x.tell(0, 3, 0, 107);
        Check.due("none of them", x.truly(0, 1), 0);
    }

    private static void numbersThatAreBad() {
        ThriceCounted x = Check.readNew(ONE);
        Check.bad("likely(1, 98)", x, () -> x.likely(1, 98));
        Check.bad("likely(-1, 98)", x, () -> x.likely(-1, 98));
        Check.bad("likely(0, 89)", x, () -> x.likely(0, 89));
        Check.bad("likely(0, 111)", x, () -> x.likely(0, 111));
        Check.bad("truly(1, 0)", x, () -> x.truly(1, 0));
        Check.bad("truly(-1, 0)", x, () -> x.truly(-1, 0));
        Check.bad("truly(0, 2)", x, () -> x.truly(0, 2));
        Check.bad("truly(0, -1)", x, () -> x.truly(0, -1));
    }
}
