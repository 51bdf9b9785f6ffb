/** Promises 18 to 24: agreed, believe, wrong, enough, plan, open, sum. */
public final class TrulyTest {
    private static final String ONE = "bank;clerk 7;bundle 98 102;";

    public static void main(String[] args) {
        agreedNone();
        agreedOneBehindTheOther();
        agreedTheFirstNumber();
        agreedWhateverElseDiffers();
        believeNoCounts();
        believeMostLessThoseThatDidNot();
        believeWhoToldNone();
        believeOfLikeOnesTheFirst();
        believeWhereNoneIsTrulyThere();
        wrongOfACount();
        wrongAlwaysOrNever();
        wrongRefused();
        enoughByNoneMore();
        enoughByOneTwoThree();
        enoughNone();
        enoughWhereCountsAreFull();
        enoughRefused();
        planByEveryMinute();
        planByEveryMinuteWithABand();
        planOfLikeOnesTheFirst();
        planWhereCountsAreFull();
        planRefused();
        openBits();
        openWithoutBandOrTruth();
        sumOfNoneAndAll();
        sumWhereOneHasNone();
        sumWhereThereWereMore();
        Check.finish("TrulyTest");
    }

    private static ThriceCounted impossible() {
        return Check.readNew("bank;clerk 7;bundle 98 98;bundle 90 95;count 0 0 0 80;");
    }

    // ---- promise 18

    private static void agreedNone() {
        ThriceCounted x = Check.readNew(ONE + "bundle 90 110;");
        Check.unchanged("no counts", x, -1, () -> x.agreed(0));
        x.tell(0, 0, 0, 100);
        Check.unchanged("one count", x, -1, () -> x.agreed(0));
        x.tell(1, 0, 0, 100);
        Check.unchanged("one each", x, -1, () -> x.agreed(0));
        x.tell(0, 1, 0, 101);
        Check.unchanged("two that differ by one", x, -1, () -> x.agreed(0));
        Check.bad("agreed(2)", x, () -> x.agreed(2));
        Check.bad("agreed(-1)", x, () -> x.agreed(-1));
    }

    /** "two of its COUNTS, one behind the other". */
    private static void agreedOneBehindTheOther() {
        ThriceCounted x = Check.readNew(ONE + "bundle 90 110;count 0 0 0 100;count 0 0 0 101;count 0 0 0 100;");
        Check.due("one is between them", x.agreed(0), -1);
        x.back(1);
        Check.due("it is taken back", x.agreed(0), 100);
        x.undo();
        Check.due("undone", x.agreed(0), -1);
        x.tell(1, 0, 0, 99);
        x.tell(0, 0, 0, 100);
        Check.due("one of another bundle is not between them", x.agreed(0), 100);
        Check.due("and agrees with none", x.agreed(1), -1);
    }

    /** "the first number". */
    private static void agreedTheFirstNumber() {
        ThriceCounted x = Check.readNew(ONE + "count 0 0 0 90;");
        x.tell(0, 0, 0, 100);
        x.tell(0, 0, 0, 100);
        x.tell(0, 0, 0, 99);
        x.tell(0, 0, 0, 99);
        x.tell(0, 0, 0, 80);
        x.tell(0, 0, 0, 80);
        Check.due("the first of three", x.agreed(0), 100);
        x.back(2);
        Check.due("the first of two", x.agreed(0), 99);
        x.back(2);
        Check.due("the last two", x.agreed(0), 80);
        x.back(3);
        Check.due("none", x.agreed(0), -1);
        ThriceCounted y = Check.readNew(ONE + "count 0 0 0 80;count 0 1 0 80;count 0 1 0 81;");
        Check.due("the first two", y.agreed(0), 80);
    }

    /** It is what they TOLD: way and clerk may differ, and no such number need be possible. */
    private static void agreedWhateverElseDiffers() {
        ThriceCounted x = Check.readNew(ONE + "clerk 0;count 0 0 0 120;count 0 5 1 120;");
        Check.due("told 120 twice", x.agreed(0), 120);
        Check.due("which it can not be", x.truly(0, 0), -1);
    }

    // ---- promise 19

    /** "none: no COUNTS". */
    private static void believeNoCounts() {
        ThriceCounted x = new ThriceCounted();
        Check.unchanged("nobody", x, -1, x::believe);
        x.clerk(10);
        x.bundle(90, 110);
        x.band(0, 100, 0);
        Check.unchanged("no counts", x, -1, x::believe);
        x.tell(0, 0, 0, 100);
        Check.unchanged("one count", x, 0, x::believe);
        x.back(0);
        Check.unchanged("taken back", x, -1, x::believe);
    }

    private static void believeMostLessThoseThatDidNot() {
        ThriceCounted x = Check.readNew("bank;clerk 5;clerk 5;bundle 90 110;");
        x.tell(0, 0, 0, 100);
        x.tell(0, 0, 0, 100);
        x.tell(0, 0, 1, 100);
        Check.due("two right and one right", x.believe(), 0);
        x.tell(0, 0, 0, 101);
        Check.due("two less one, and one", x.believe(), 0);
        x.tell(0, 0, 0, 101);
        Check.due("two less two, and one", x.believe(), 1);
        x.tell(0, 0, 1, 101);
        Check.due("none of three each, of like ones the first", x.believe(), 0);
    }

    /** "(who TOLD none: 0)". */
    private static void believeWhoToldNone() {
        ThriceCounted x = Check.readNew("bank;clerk 5;clerk 5;clerk 5;bundle 90 110;bundle 98 98;");
        x.tell(0, 0, 0, 101);
        x.tell(0, 0, 2, 100);
        x.tell(0, 0, 2, 100);
        Check.due("two right", x.believe(), 2);
        x.tell(1, 0, 2, 80);
        x.tell(1, 0, 2, 80);
        Check.due("two less two, and who told none: 0, the first of like ones", x.believe(), 1);
        x.tell(1, 0, 1, 80);
        Check.due("below 0 is less than 0", x.believe(), 2);
    }

    private static void believeOfLikeOnesTheFirst() {
        ThriceCounted x = Check.readNew("bank;clerk 0;clerk 10;clerk 5;bundle 90 110;");
        x.tell(0, 0, 2, 100);
        Check.due("the last alone", x.believe(), 2);
        x.tell(0, 0, 1, 100);
        Check.due("one right each", x.believe(), 1);
        x.tell(0, 0, 0, 100);
        Check.due("one right each", x.believe(), 0);
        x.clerk(10);
        x.clerk(10);
        x.tell(0, 0, 4, 100);
        x.tell(0, 0, 4, 100);
        Check.due("the fifth of five", x.believe(), 4);
    }

    /** What is TRULY in a bundle is none: no count told it. */
    private static void believeWhereNoneIsTrulyThere() {
        ThriceCounted x = Check.readNew("bank;clerk 5;bundle 98 98;count 0 0 0 80;");
        Check.due("one alone, below 0", x.believe(), 0);
        x.clerk(5);
        Check.due("another, who told none", x.believe(), 1);
    }

    // ---- promise 20

    private static void wrong(ThriceCounted x, int count, long above, long below) {
        Check.due("wrong(" + count + ")", x.wrong(count), 1);
        Check.fraction("wrong(" + count + ")", x, above, below);
    }

    /** "how likely its BUNDLE holds another number". */
    private static void wrongOfACount() {
        ThriceCounted x = Check.readNew(ONE + "bundle 90 91;count 0 0 0 100;count 1 0 0 90;");
        wrong(x, 0, 3, 20);
        wrong(x, 1, 2, 19);
        x.tell(0, 0, 0, 101);
        // 100: 17 * 1; 101: 2 * 17.
        wrong(x, 0, 2, 3);
        wrong(x, 2, 1, 3);
        x.back(1);
        wrong(x, 1, 1, 3);
    }

    private static void wrongAlwaysOrNever() {
        ThriceCounted x = Check.readNew("bank;clerk 5;bundle 90 92;bundle 108 110;bundle 99 99;"
                + "count 0 0 0 89;count 1 0 0 111;count 2 0 0 99;count 2 0 0 98;");
        wrong(x, 0, 1, 1);
        wrong(x, 2, 0, 1);
        wrong(x, 1, 1, 1);
        wrong(x, 3, 1, 1);
        int[][] far = {{1, 85, 90, 95}, {3, 87, 90, 95}, {2, 112, 105, 110}, {3, 113, 105, 110}};
        for (int[] one : far) {
            ThriceCounted y = Check.readNew("bank;clerk 5;");
            y.bundle(one[2], one[3]);
            y.tell(0, one[0], 0, one[1]);
            wrong(y, 0, 1, 1);
        }
    }

    private static void wrongRefused() {
        ThriceCounted x = Check.readNew(ONE);
        Check.bad("wrong(0) of none", x, () -> x.wrong(0));
        x.tell(0, 0, 0, 99);
        Check.bad("wrong(1) of one", x, () -> x.wrong(1));
        Check.bad("wrong(-1)", x, () -> x.wrong(-1));
        wrong(x, 0, 3, 20);
        x.tell(0, 0, 0, 102);
        Check.no("no number can be", x, () -> x.wrong(0));
        Check.no("no number can be", x, () -> x.wrong(1));
        Check.bad("wrong(2)", x, () -> x.wrong(2));
    }

    // ---- promise 21

    /** "LIKELY by s of 10 or more": just so many is enough. */
    private static void enoughByNoneMore() {
        ThriceCounted x = Check.readNew("bank;clerk 5;bundle 99 100;bundle 99 99;bundle 90 99;");
        Check.unchanged("half is 5 of 10", x, 0, () -> x.enough(0, 0, 5));
        Check.due("half is not 6 of 10", x.enough(0, 0, 6), 1);
        Check.due("sure", x.enough(1, 5, 9), 0);
        Check.due("1 of 10", x.enough(2, 0, 1), 0);
        Check.due("1 of 10 is not 2", x.enough(2, 0, 2), 1);
        x.clerk(9);
        x.band(2, 95, 1);
        Check.due("9 of 10", x.enough(2, 3, 9), 0);
        x.band(2, 95, 0);
        Check.due("5 of 10", x.enough(2, 3, 5), 0);
    }

    /** "the least k", of 0 .. 3. */
    private static void enoughByOneTwoThree() {
        ThriceCounted x = Check.readNew("bank;clerk 5;bundle 99 100;bundle 99 101;");
        Check.due("17 of 19", x.enough(0, 0, 8), 1);
        Check.due("17 of 19, 289 of 293", x.enough(0, 0, 9), 2);
        Check.due("by weight 8 of 11", x.enough(0, 2, 7), 1);
        Check.due("by weight 8 of 11, 64 of 73", x.enough(0, 2, 8), 2);
        Check.due("by weight 8 of 11, 64 of 73, 512 of 539", x.enough(0, 2, 9), 3);
        Check.due("by height just 4 of 10", x.enough(1, 3, 4), 1);
        Check.due("by height 16 of 34, 64 of 118", x.enough(1, 3, 5), 3);
    }

    private static void enoughNone() {
        ThriceCounted x = Check.readNew("bank;clerk 5;bundle 99 101;bundle 90 109;bundle 99 99;count 2 0 0 80;");
        Check.unchanged("three at most: by four 256 of 418", x, -1, () -> x.enough(0, 3, 6));
        Check.due("by height, of twenty", x.enough(1, 3, 9), -1);
        Check.unchanged("none is truly there", x, -1, () -> x.enough(2, 0, 1));
        Check.due("nor by 9 of 10", x.enough(2, 0, 9), -1);
    }

    /** It is "were there k more": there may be eight already. */
    private static void enoughWhereCountsAreFull() {
        ThriceCounted x = Check.readNew("bank;clerk 5;bundle 99 100;bundle 90 110;" + "count 1 0 0 99;".repeat(6));
        x.tell(1, 0, 0, 99);
        x.tell(1, 0, 0, 99);
        Check.unchanged("two more", x, 2, () -> x.enough(0, 0, 9));
        Check.unchanged("three more", x, 3, () -> x.enough(0, 2, 9));
        Check.unchanged("eight are enough", x, 0, () -> x.enough(1, 3, 9));
    }

    private static void enoughRefused() {
        ThriceCounted x = Check.readNew("bank;bundle 99 100;");
        Check.due("s 1", x.enough(0, 0, 1), 0);
        Check.due("s 9, 11 of 15, 121 of 137, 1331 of 1395", x.enough(0, 5, 9), 3);
        Check.bad("enough(1, 0, 1)", x, () -> x.enough(1, 0, 1));
        Check.bad("enough(-1, 0, 1)", x, () -> x.enough(-1, 0, 1));
        Check.bad("enough(0, 6, 1)", x, () -> x.enough(0, 6, 1));
        Check.bad("enough(0, -1, 1)", x, () -> x.enough(0, -1, 1));
        Check.bad("enough(0, 0, 0)", x, () -> x.enough(0, 0, 0));
        Check.bad("enough(0, 0, 10)", x, () -> x.enough(0, 0, 10));
    }

    // ---- promise 22

    private static void plan(ThriceCounted x, int bundle, int m, int due, long above, long below) {
        String call = "plan(" + bundle + ", " + m + ")";
        Check.due(call, x.plan(bundle, m), due);
        Check.fraction(call, x, above, below);
    }

    /** "3 at most together, no more than m MINUTES together": 99 against 100, by 17 to 2, 8 to 1 and 8 to 3. */
    private static void planByEveryMinute() {
        ThriceCounted x = Check.readNew("bank;clerk 5;bundle 99 100;");
        plan(x, 0, 0, 0, 1, 2);
        plan(x, 0, 1, 1, 8, 11);
        plan(x, 0, 2, 2, 64, 73);
        plan(x, 0, 3, 3, 512, 539);
        // Four weighed would be more, but they are four.
        plan(x, 0, 4, 11, 64, 67);
        plan(x, 0, 5, 12, 512, 521);
        plan(x, 0, 6, 20, 64, 65);
        plan(x, 0, 7, 21, 512, 515);
        plan(x, 0, 8, 21, 512, 515);
        plan(x, 0, 9, 30, 512, 513);
        plan(x, 0, 10, 30, 512, 513);
        plan(x, 0, 11, 120, 544, 545);
        plan(x, 0, 12, 120, 544, 545);
        plan(x, 0, 13, 210, 578, 579);
        plan(x, 0, 14, 210, 578, 579);
        for (int m = 15; m <= 30; m++) {
            plan(x, 0, m, 300, 4913, 4921);
        }
    }

    /** 100 against 99 by 9 to 1, and by 17, 16 and 8 to 1, 1 and 3 for each count. */
    private static void planByEveryMinuteWithABand() {
        ThriceCounted x = Check.readNew("bank;clerk 1;bundle 99 100;band 0 99 0;");
        int[] due = {0, 1, 2, 3, 11, 12, 20, 21, 21, 30, 30, 120, 120, 210, 210, 300};
        for (int m = 0; m <= 30; m++) {
            int best = due[Math.min(m, 15)];
            long here = 9;
            long there = 1;
            for (int i = 0; i < best / 100; i++) {
                here *= 17;
            }
            for (int i = 0; i < best / 10 % 10; i++) {
                here *= 16;
            }
            for (int i = 0; i < best % 10; i++) {
                here *= 8;
                there *= 3;
            }
            // What both have of 3 is all that they have in common.
            long common = there == 1 ? 1 : there == 3 ? 3 : 9;
            plan(x, 0, m, best, here / common, (here + there) / common);
        }
    }

    /** "of like ones the first (100 a, 10 f and g)". */
    private static void planOfLikeOnesTheFirst() {
        ThriceCounted x = Check.readNew("bank;clerk 5;bundle 99 99;bundle 98 102;count 1 1 0 97;");
        plan(x, 0, 0, 0, 1, 1);
        plan(x, 0, 30, 0, 1, 1);
        // 98 by 2, 102 by 1: any count that tells 98 leaves 98 alone, one weighed is the first of them.
        plan(x, 1, 0, 0, 2, 3);
        plan(x, 1, 1, 1, 1, 1);
        plan(x, 1, 30, 1, 1, 1);
    }

    private static void planWhereCountsAreFull() {
        ThriceCounted x = Check.readNew("bank;clerk 9;bundle 90 110;band 0 100 0;");
        for (int i = 0; i < 8; i++) {
            x.tell(0, 0, 0, i % 2 == 0 ? 100 : 101);
        }
        // 100 to 101 as 45 to 4, times 17 to 2 three times.
        plan(x, 0, 15, 300, 45L * 4913, 45L * 4913 + 4L * 8);
        plan(x, 0, 0, 0, 45, 49);
        Check.due("they are as many as before", x.count(2), 8);
    }

    private static void planRefused() {
        ThriceCounted x = impossible();
        x.likely(1, 90);
        Check.no("no number can be", x, () -> x.plan(0, 0));
        Check.no("no number can be", x, () -> x.plan(0, 30));
        Check.bad("plan(2, 0)", x, () -> x.plan(2, 0));
        Check.bad("plan(-1, 0)", x, () -> x.plan(-1, 0));
        Check.bad("plan(1, -1)", x, () -> x.plan(1, -1));
        Check.bad("plan(1, 31)", x, () -> x.plan(1, 31));
        Check.bad("BAD ahead of NO", x, () -> x.plan(0, 31));
    }

    // ---- promise 23

    private static void openBits() {
        ThriceCounted x = Check.readNew("bank;clerk 0;clerk 10;bundle 90 110;bundle 90 110;bundle 90 110;"
                + "bundle 99 99;bundle 90 110;");
        for (int bundle = 0; bundle < 5; bundle++) {
            x.band(bundle, 98, 0);
            Check.unchanged("open up to " + bundle, x, (2 << bundle) - 1, x::open);
        }
        for (int bundle = 0; bundle < 5; bundle++) {
            x.band(bundle, bundle == 3 ? 99 : 98, 1);
            Check.unchanged("trusted up to " + bundle, x, 31 - ((2 << bundle) - 1), x::open);
        }
    }

    /** "with a BAND whose number is not what is TRULY in them (there is such)". */
    private static void openWithoutBandOrTruth() {
        ThriceCounted x = new ThriceCounted();
        Check.unchanged("no bundles", x, 0, x::open);
        x.clerk(0);
        x.bundle(99, 99);
        Check.unchanged("no bands", x, 0, x::open);
        x.band(0, 99, 0);
        Check.unchanged("a band that is right", x, 0, x::open);
        x.band(0, 98, 0);
        Check.unchanged("a band out of the limits", x, 1, x::open);
        x.tell(0, 0, 0, 80);
        Check.unchanged("what is truly in it is none", x, 0, x::open);
        x.undo();
        Check.unchanged("it is 99 again", x, 1, x::open);
    }

    // ---- promise 24

    private static void sumOfNoneAndAll() {
        ThriceCounted x = new ThriceCounted();
        Check.unchanged("no bundles", x, 0, x::sum);
        for (int i = 1; i <= 5; i++) {
            x.bundle(90, 110);
            Check.unchanged("the least of each", x, 90 * i, x::sum);
        }
        ThriceCounted y = new ThriceCounted();
        for (int i = 1; i <= 5; i++) {
            y.bundle(110, 110);
            Check.unchanged("the most of each", y, 110 * i, y::sum);
        }
    }

    /** "none: one has none". */
    private static void sumWhereOneHasNone() {
        for (int bundle = 0; bundle < 3; bundle++) {
            ThriceCounted x = Check.readNew("bank;clerk 5;bundle 90 110;bundle 99 99;bundle 91 92;");
            Check.unchanged("all have", x, 280, x::sum);
            x.tell(bundle, 0, 0, 80);
            Check.unchanged("one has none", x, -1, x::sum);
            x.undo();
            Check.unchanged("all have again", x, 280, x::sum);
        }
    }

    private static void sumWhereThereWereMore() {
        ThriceCounted x = Check.readNew("bank;clerk 5;bundle 91 91;");
        x.image(0);
        x.bundle(92, 92);
        Check.due("two", x.sum(), 183);
        x.from(0);
        Check.due("one again", x.sum(), 91);
        x.bundle(93, 93);
        x.tell(1, 0, 0, 80);
        Check.due("one has none", x.sum(), -1);
        x.from(0);
        Check.due("it is there no more", x.sum(), 91);
        x.bank();
        Check.due("none", x.sum(), 0);
    }
}
