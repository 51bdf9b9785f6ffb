/** Promises 12 to 15: way, odds, of, about. */
public final class WaysTest {
    private static final int[][] OFF = {
        {-1, -1, 1, 0, 0, 0, 0, 0, 0, 0, 0, 0, 0, 0, 0, 0, 0, 0, 0, 0},
        {-1, -1, 1, -5, 0, 0, 0, 0, 0, 0, 0, 0, 0, 0, 0, 0, 0, 0, 0, 0},
        {-1, -1, -1, -2, -2, -2, 1, 1, 1, 2, 2, 2, 0, 0, 0, 0, 0, 0, 0, 0},
        {-1, -1, -1, -2, -2, -2, 1, 1, 1, 2, 2, 2, -3, -3, 3, 3, 0, 0, 0, 0},
        {-1, -1, -1, -1, 1, 1, 0, 0, 0, 0, 0, 0, 0, 0, 0, 0, 0, 0, 0, 0},
        {-1, -1, -1, -1, 1, 1, -2, -2, -2, 0, 0, 0, 0, 0, 0, 0, 0, 0, 0, 0}};
    private static final int[] MINUTES = {5, 3, 1, 1, 7, 7};
    private static final int[] RIGHT = {17, 16, 8, 4, 14, 11};

    public static void main(String[] args) {
        offByEverySlip();
        minutesAndOddsOfBeingRight();
        wayRefused();
        oddsOfEveryNumber();
        oddsOfAllTogether();
        oddsRefused();
        ofACount();
        ofRefused();
        aboutABundle();
        aboutHowManyCounts();
        aboutRefused();
        Check.finish("WaysTest");
    }

    // ---- promise 12

    /** "off by a slip k (what = k, 0 .. 19; it may be below 0)". */
    private static void offByEverySlip() {
        ThriceCounted x = new ThriceCounted();
        for (int way = 0; way < 6; way++) {
            for (int k = 0; k < 20; k++) {
                Check.due("way(" + way + ", " + k + ")", x.way(way, k), OFF[way][k]);
            }
        }
        Check.due("none of them is a refusal", x.status(0), 0);
    }

    /** "MINUTES (20), ODDS of being right (21)". */
    private static void minutesAndOddsOfBeingRight() {
        ThriceCounted x = new ThriceCounted();
        for (int way = 0; way < 6; way++) {
            Check.due("minutes of " + way, x.way(way, 20), MINUTES[way]);
            Check.due("right by " + way, x.way(way, 21), RIGHT[way]);
        }
    }

    /** "BAD: -100." */
    private static void wayRefused() {
        ThriceCounted x = new ThriceCounted();
        Check.refused("way(-1, 0)", x, Check.BAD, -100, () -> x.way(-1, 0));
        Check.refused("way(6, 0)", x, Check.BAD, -100, () -> x.way(6, 0));
        Check.refused("way(0, -1)", x, Check.BAD, -100, () -> x.way(0, -1));
        Check.refused("way(0, 22)", x, Check.BAD, -100, () -> x.way(0, 22));
        Check.refused("way(6, 22)", x, Check.BAD, -100, () -> x.way(6, 22));
    }

    // ---- promise 13

    /** "ODDS of a WAY of being off by v (-40 .. 40)": "how many of the twenty k". */
    private static void oddsOfEveryNumber() {
        for (int way = 0; way < 6; way++) {
            ThriceCounted x = new ThriceCounted();
            for (int v = -40; v <= 40; v++) {
                int many = 0;
                for (int k = 0; k < 20; k++) {
                    many += OFF[way][k] == v ? 1 : 0;
                }
                Check.due("odds(" + way + ", " + v + ")", x.odds(way, v), many);
            }
            Check.due("none of them is a refusal", x.status(0), 0);
        }
    }

    private static void oddsOfAllTogether() {
        for (int way = 0; way < 6; way++) {
            ThriceCounted x = new ThriceCounted();
            int all = 0;
            for (int v = -40; v <= 40; v++) {
                all += x.odds(way, v);
            }
            Check.due("all odds of " + way, all, 20);
            Check.due("being right is being off by 0", x.odds(way, 0), x.way(way, 21));
        }
    }

    private static void oddsRefused() {
        ThriceCounted x = new ThriceCounted();
        Check.bad("odds(-1, 0)", x, () -> x.odds(-1, 0));
        Check.bad("odds(6, 0)", x, () -> x.odds(6, 0));
        Check.bad("odds(0, -41)", x, () -> x.odds(0, -41));
        Check.bad("odds(0, 41)", x, () -> x.odds(0, 41));
    }

    // ---- promise 14

    private static void ofACount() {
        ThriceCounted x = Check.readNew("bank;clerk 1;clerk 2;bundle 90 99;bundle 90 99;count 1 5 0 120;");
        x.tell(0, 3, 1, 80);
        int[][] due = {{1, 5, 0, 120}, {0, 3, 1, 80}};
        for (int count = 0; count < 2; count++) {
            for (int what = 0; what < 4; what++) {
                Check.due("of(" + count + ", " + what + ")", x.of(count, what), due[count][what]);
            }
        }
        x.bundle(90, 99);
        for (int i = 2; i < 8; i++) {
            x.tell(2, i - 2, 1, 100 + i);
        }
        for (int i = 2; i < 8; i++) {
            Check.due("bundle of " + i, x.of(i, 0), 2);
            Check.due("way of " + i, x.of(i, 1), i - 2);
            Check.due("told by " + i, x.of(i, 3), 100 + i);
        }
        Check.bad("of(8, 0) of eight", x, () -> x.of(8, 0));
    }

    private static void ofRefused() {
        ThriceCounted none = new ThriceCounted();
        Check.bad("of(0, 0) of none", none, () -> none.of(0, 0));
        ThriceCounted x = Check.readNew("bank;clerk 1;bundle 90 99;count 0 5 0 120;count 0 5 0 120;");
        Check.bad("of(2, 0)", x, () -> x.of(2, 0));
        Check.bad("of(-1, 0)", x, () -> x.of(-1, 0));
        Check.bad("of(0, 4)", x, () -> x.of(0, 4));
        Check.bad("of(0, -1)", x, () -> x.of(0, -1));
        x.back(0);
        Check.bad("of(1, 0) of what was taken back", x, () -> x.of(1, 0));
    }

    // ---- promise 15

    /** "LOW (0), HIGH (1), the BAND's number (2; NONE), who signed it (3; NONE)". */
    private static void aboutABundle() {
        ThriceCounted x = Check.readNew("bank;clerk 1;bundle 90 99;bundle 95 110;band 1 97 0;count 1 0 0 97;");
        x.tell(1, 0, 0, 80);
        int[][] due = {{90, 99, -1, -1, 0}, {95, 110, 97, 0, 2}};
        for (int bundle = 0; bundle < 2; bundle++) {
            for (int what = 0; what < 5; what++) {
                int answer = due[bundle][what];
                int one = bundle;
                int other = what;
                Check.unchanged("about(" + bundle + ", " + what + ")", x, answer, () -> x.about(one, other));
            }
        }
    }

    /** "how many COUNTS it has (4)". */
    private static void aboutHowManyCounts() {
        ThriceCounted x = Check.readNew("bank;clerk 1;bundle 90 99;bundle 90 99;");
        for (int i = 0; i < 8; i++) {
            Check.due("counts of 1", x.about(1, 4), i);
            x.tell(1, 0, 0, 95);
        }
        Check.due("all eight", x.about(1, 4), 8);
        Check.due("none of the other", x.about(0, 4), 0);
        x.back(7);
        x.tell(0, 0, 0, 95);
        Check.due("seven", x.about(1, 4), 7);
        Check.due("one of the other", x.about(0, 4), 1);
    }

    /** "BAD: -10." */
    private static void aboutRefused() {
        ThriceCounted none = new ThriceCounted();
        Check.refused("about(0, 0) of none", none, Check.BAD, -10, () -> none.about(0, 0));
        ThriceCounted x = Check.readNew("bank;clerk 1;bundle 90 99;bundle 95 110;");
        Check.refused("about(2, 0)", x, Check.BAD, -10, () -> x.about(2, 0));
        Check.refused("about(-1, 0)", x, Check.BAD, -10, () -> x.about(-1, 0));
        Check.refused("about(0, 5)", x, Check.BAD, -10, () -> x.about(0, 5));
        Check.refused("about(0, -1)", x, Check.BAD, -10, () -> x.about(0, -1));
    }
}
