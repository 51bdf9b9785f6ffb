/** Promises 12 to 15: way, odds, of, about. */
public final class WaysTest {
    private static final int[][] OFF = {
        {-1, -1, 1, 0, 0, 0, 0, 0, 0, 0, 0, 0, 0, 0, 0, 0, 0, 0, 0, 0},
        {-1, -1, 1, -5, 0, 0, 0, 0, 0, 0, 0, 0, 0, 0, 0, 0, 0, 0, 0, 0},
        {-1, -1, -1, -2, -2, -2, 1, 1, 1, 2, 2, 2, 0, 0, 0, 0, 0, 0, 0, 0},
        {-1, -1, -1, -2, -2, -2, 1, 1, 1, 2, 2, 2, -3, -3, 3, 3, 0, 0, 0, 0},
        {-1, -1, -1, -1, 1, 1, 0, 0, 0, 0, 0, 0, 0, 0, 0, 0, 0, 0, 0, 0},
        {-1, -1, -1, -1, 1, 1, -2, -2, -2, 0, 0, 0, 0, 0, 0, 0, 0, 0, 0, 0}};
    private static final int[] MINUTES = {5, 3, 1, 1, 7, 7};
    private static final int[] RIGHT = {17, 16, 8, 4, 14, 11};

    public static void main(String[] args) {
        way();
        odds();
        of();
        about();
        Check.finish("WaysTest");
    }

    private static void way() {
        ThriceCounted x = new ThriceCounted();
        for (int way = 0; way < 6; way++) {
            for (int k = 0; k < 20; k++) {
                Check.due("way(" + way + ", " + k + ")", x.way(way, k), OFF[way][k]);
            }
            Check.due("minutes of " + way, x.way(way, 20), MINUTES[way]);
            Check.due("right by " + way, x.way(way, 21), RIGHT[way]);
        }
        Check.refused("way(-1, 0)", x, Check.BAD, -100, () -> x.way(-1, 0));
        Check.refused("way(6, 0)", x, Check.BAD, -100, () -> x.way(6, 0));
        Check.refused("way(0, -1)", x, Check.BAD, -100, () -> x.way(0, -1));
        Check.refused("way(0, 22)", x, Check.BAD, -100, () -> x.way(0, 22));
    }

    private static void odds() {
        ThriceCounted x = new ThriceCounted();
        for (int way = 0; way < 6; way++) {
            for (int v = -40; v <= 40; v++) {
                int many = 0;
                for (int k = 0; k < 20; k++) {
                    many += OFF[way][k] == v ? 1 : 0;
                }
                Check.due("odds(" + way + ", " + v + ")", x.odds(way, v), many);
            }
        }
        Check.bad("odds(-1, 0)", x, () -> x.odds(-1, 0));
        Check.bad("odds(6, 0)", x, () -> x.odds(6, 0));
        Check.bad("odds(0, -41)", x, () -> x.odds(0, -41));
        Check.bad("odds(0, 41)", x, () -> x.odds(0, 41));
    }

    private static void of() {
        ThriceCounted x = Check.readNew("bank;clerk 1;clerk 2;bundle 90 99;bundle 90 99;count 1 5 0 120;");
        x.tell(0, 3, 1, 80);
        int[][] due = {{1, 5, 0, 120}, {0, 3, 1, 80}};
        for (int count = 0; count < 2; count++) {
            for (int what = 0; what < 4; what++) {
                Check.due("of(" + count + ", " + what + ")", x.of(count, what), due[count][what]);
            }
        }
        Check.bad("of(2, 0)", x, () -> x.of(2, 0));
        Check.bad("of(-1, 0)", x, () -> x.of(-1, 0));
        Check.bad("of(0, 4)", x, () -> x.of(0, 4));
        Check.bad("of(0, -1)", x, () -> x.of(0, -1));
    }

    private static void about() {
        ThriceCounted x = Check.readNew("bank;clerk 1;bundle 90 99;bundle 95 110;band 1 97 0;count 1 0 0 97;");
        x.tell(1, 0, 0, 80);
        int[][] due = {{90, 99, -1, -1, 0}, {95, 110, 97, 0, 2}};
        for (int bundle = 0; bundle < 2; bundle++) {
            for (int what = 0; what < 5; what++) {
                Check.due("about(" + bundle + ", " + what + ")", x.about(bundle, what), due[bundle][what]);
            }
        }
        Check.refused("about(2, 0)", x, Check.BAD, -10, () -> x.about(2, 0));
        Check.refused("about(-1, 0)", x, Check.BAD, -10, () -> x.about(-1, 0));
        Check.refused("about(0, 5)", x, Check.BAD, -10, () -> x.about(0, 5));
        Check.refused("about(0, -1)", x, Check.BAD, -10, () -> x.about(0, -1));
    }
}
