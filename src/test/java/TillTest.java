/** Promises 25 to 30: cause, forget, why, look, writeOff, drawn. */
public final class TillTest {
    public static void main(String[] args) {
        cause();
        why();
        look();
        lookOfLikeOnes();
        lookOfSix();
        writeOff();
        drawn();
        Check.finish("TillTest");
    }

    private static ThriceCounted causes(int[][] rows) {
        ThriceCounted x = new ThriceCounted();
        for (int i = 0; i < rows.length; i++) {
            Check.due("cause " + i, x.cause(rows[i][0], rows[i][1], rows[i][2], rows[i][3]), i);
        }
        return x;
    }

    private static void cause() {
        ThriceCounted x = causes(new int[][] {{-99, 1, 0, 0}, {99, 20, 30, 10}});
        Check.bad("n -100", x, () -> x.cause(-100, 1, 0, 0));
        Check.bad("n 100", x, () -> x.cause(100, 1, 0, 0));
        Check.bad("o 0", x, () -> x.cause(0, 0, 0, 0));
        Check.bad("o 21", x, () -> x.cause(0, 21, 0, 0));
        Check.bad("w -1", x, () -> x.cause(0, 1, -1, 0));
        Check.bad("w 31", x, () -> x.cause(0, 1, 31, 0));
        Check.bad("m -1", x, () -> x.cause(0, 1, 0, -1));
        Check.bad("m 11", x, () -> x.cause(0, 1, 0, 11));
        for (int i = 2; i < 6; i++) {
            Check.due("cause " + i, x.cause(0, 1, 0, 0), i);
        }
        Check.full("a 7th cause", x, () -> x.cause(0, 1, 0, 0));
        Check.bad("BAD ahead of FULL", x, () -> x.cause(0, 21, 0, 0));
        Check.due("causes", x.count(3), 6);
        Check.due("forget", x.forget(), 6);
        Check.due("causes", x.count(3), 0);
        Check.due("forget again", x.forget(), 0);
        Check.due("why of none", x.why(0, 0), 0);
    }

    private static void why() {
        ThriceCounted x = causes(new int[][] {{5, 10, 1, 1}, {-5, 20, 1, 1}, {5, 10, 1, 1}, {10, 9, 1, 1}});
        Check.unchanged("5: 0, 2 and 1 with 3", x, 3, () -> x.why(5, 0));
        Check.unchanged("of like ones the first", x, 0, () -> x.why(5, 1));
        Check.due("10: 3 and 0 with 2", x.why(10, 0), 2);
        Check.due("one alone", x.why(10, 1), 33);
        Check.due("0: two pairs", x.why(0, 0), 2);
        Check.due("the first pair", x.why(0, 1), 1);
        Check.due("15: two pairs", x.why(15, 0), 2);
        Check.due("the first pair", x.why(15, 1), 3);
        Check.due("not one twice", x.why(20, 0), 0);
        Check.unchanged("none", x, -1, () -> x.why(20, 1));
        Check.bad("why(-199, 0)", x, () -> x.why(-199, 0));
        Check.bad("why(199, 0)", x, () -> x.why(199, 0));
        Check.bad("why(0, -1)", x, () -> x.why(0, -1));
        Check.bad("why(0, 2)", x, () -> x.why(0, 2));
        ThriceCounted y = causes(new int[][] {{99, 1, 1, 1}, {99, 1, 1, 1}, {-99, 20, 1, 1}, {-99, 20, 1, 1}});
        Check.due("198", y.why(198, 1), 1);
        Check.due("-198", y.why(-198, 1), 23);
        Check.due("of pairs of like odds the first", y.why(0, 1), 2);
        ThriceCounted z = causes(new int[][] {{7, 19, 1, 1}, {3, 20, 1, 1}, {10, 19, 1, 1}});
        Check.due("a pair of 19, cut, as one of 19: the first by 10 i and j", z.why(10, 1), 1);
    }

    private static void look() {
        // By minutes 10 and 2: 0 1 takes (1*10 + 1*12)/2, 1 0 takes (1*2 + 1*12)/2.
        ThriceCounted x = causes(new int[][] {{4, 1, 10, 10}, {4, 1, 2, 10}, {-4, 3, 7, 5}});
        Check.due("look(4, 0)", x.look(4, 0), 1);
        Check.fraction("look(4, 0)", x, 7, 1);
        Check.due("look(-4, 0)", x.look(-4, 0), 2);
        Check.fraction("look(-4, 0)", x, 7, 1);
        x.likely(0, 0);
        Check.due("look(4, 1)", x.look(4, 1), 0);
        Check.fraction("look(4, 1)", x, 7, 1);
        Check.unchanged("not so many", x, -5, () -> x.look(4, 2));
        Check.unchanged("far from so many", x, -5, () -> x.look(4, Integer.MAX_VALUE));
        Check.unchanged("none", x, -5, () -> x.look(5, 0));
        Check.refused("look(-199, 0)", x, Check.BAD, -10, () -> x.look(-199, 0));
        Check.refused("look(199, 0)", x, Check.BAD, -10, () -> x.look(199, 0));
        Check.refused("look(4, -1)", x, Check.BAD, -10, () -> x.look(4, -1));
        // Found by half: cause 0 (3*(5*6+5*7) + 1*7*10)/(10*4), the other way about (3*70 + 1*70)/40.
        ThriceCounted y = causes(new int[][] {{1, 1, 1, 0}, {1, 3, 6, 5}});
        Check.due("what is never found comes last", y.look(1, 0), 1);
        Check.fraction("found by half", y, 53, 8);
    }

    private static void lookOfLikeOnes() {
        ThriceCounted x = causes(new int[][] {{0, 2, 4, 10}, {0, 1, 0, 0}, {0, 1, 2, 10}, {0, 20, 10, 10}});
        int[] due = {1, 3, 0, 2};
        for (int i = 0; i < 4; i++) {
            Check.due("look(0, " + i + ")", x.look(0, i), due[i]);
        }
        ThriceCounted y = causes(new int[][] {{0, 1, 0, 0}, {0, 1, 5, 0}, {0, 1, 0, 0}});
        Check.due("all alike", y.look(0, 0) * 100 + y.look(0, 1) * 10 + y.look(0, 2), 12);
        Check.fraction("all minutes", y, 5, 1);
    }

    private static void lookOfSix() {
        ThriceCounted x = causes(new int[][] {{9, 1, 30, 1}, {9, 2, 20, 2}, {9, 3, 15, 4}, {9, 4, 12, 5}, {9, 5, 6, 7},
            {9, 20, 1, 10}});
        for (int i = 0; i < 6; i++) {
            Check.due("six: look(9, " + i + ")", x.look(9, i), 5 - i);
        }
        Check.unchanged("no 7th", x, -5, () -> x.look(9, 6));
        // Until 1, 7, 19, 34, 54, 84: 20*10*1, 5*(7*7+3*84), 4*(5*19+5*84), 3*(4*34+6*84), 2*(2*54+8*84), 10*84,
        // together 8085, by ten times the odds 35.
        Check.fraction("six", x, 231, 10);
    }

    private static void writeOff() {
        ThriceCounted x = causes(new int[][] {{30, 1, 6, 10}, {30, 1, 30, 10}, {-30, 1, 1, 3}, {0, 1, 0, 10}});
        Check.unchanged("10*4*6 below 30*10", x, 0, () -> x.writeOff(30, 4));
        Check.due("10*5*6 is 30*10", x.writeOff(30, 5), 1);
        Check.due("without its sign: 80 below 90", x.writeOff(-30, 8), 0);
        Check.due("90 is 90", x.writeOff(-30, 9), 1);
        Check.due("off by nothing", x.writeOff(0, 0), 1);
        x.cause(95, 1, 1, 1);
        Check.due("90 below 95", x.writeOff(95, 9), 0);
        Check.due("100 above 95", x.writeOff(95, 10), 1);
        Check.due("no cause", x.writeOff(198, 0), 1);
        Check.due("99 a minute", x.writeOff(-198, 99), 1);
        Check.bad("writeOff(-199, 0)", x, () -> x.writeOff(-199, 0));
        Check.bad("writeOff(199, 0)", x, () -> x.writeOff(199, 0));
        Check.bad("writeOff(0, -1)", x, () -> x.writeOff(0, -1));
        Check.bad("writeOff(0, 100)", x, () -> x.writeOff(0, 100));
    }

    private static void drawn() {
        ThriceCounted x = new ThriceCounted();
        int[] seeds = {0, 1, 5, 77, 65536, 999999};
        for (int way = 0; way < 6; way++) {
            for (int seed : seeds) {
                drawn(x, way, seed, 1);
                drawn(x, way, seed, 2);
                for (int n = 0; n <= 60; n += 15) {
                    drawn(x, way, seed, n);
                }
            }
        }
        Check.bad("way 6", x, () -> x.drawn(6, 100, 1, 0, 0));
        Check.bad("way -1", x, () -> x.drawn(-1, 100, 1, 0, 0));
        Check.bad("t 79", x, () -> x.drawn(0, 79, 1, 0, 0));
        Check.bad("t 121", x, () -> x.drawn(0, 121, 1, 0, 0));
        Check.bad("n -1", x, () -> x.drawn(0, 100, -1, 0, 0));
        Check.bad("n 61", x, () -> x.drawn(0, 100, 61, 0, 0));
        Check.bad("seed -1", x, () -> x.drawn(0, 100, 1, -1, 0));
        Check.bad("seed 1000000", x, () -> x.drawn(0, 100, 1, 1000000, 0));
        Check.bad("what -1", x, () -> x.drawn(0, 100, 1, 0, -1));
        Check.bad("what 3", x, () -> x.drawn(0, 100, 1, 0, 3));
    }

    private static void drawn(ThriceCounted x, int way, int seed, int n) {
        int wrap = seed;
        int right = 0;
        int least = n == 0 ? -1 : 999;
        int greatest = -1;
        for (int i = 0; i < n; i++) {
            // What is left over by 2^31 is the lower 31 bits.
            wrap = (wrap * 1103515245 + 12345) & 0x7fffffff;
            int told = 120 + x.way(way, (wrap >>> 16) % 20);
            right += told == 120 ? 1 : 0;
            least = Math.min(least, told);
            greatest = Math.max(greatest, told);
        }
        String call = "drawn(" + way + ", 120, " + n + ", " + seed + ")";
        Check.due(call + " right", x.drawn(way, 120, n, seed, 0), right);
        Check.due(call + " least", x.drawn(way, 120, n, seed, 1), least);
        Check.due(call + " greatest", x.drawn(way, 120, n, seed, 2), greatest);
    }
}
