/** Promises 25 to 30: cause, forget, why, look, writeOff, drawn. */
public final class TillTest {
    public static void main(String[] args) {
        causesAsTheyCome();
        causesAtTheirLimits();
        forgetSomeAndNone();
        whyCountsOnesAndPairs();
        whyNone();
        whyAtTheFarthest();
        whyOfPairsByTheirProduct();
        whyOfMostOdds();
        whyOfLikeOnesTheFirst();
        whyOfSix();
        whyRefused();
        lookForOne();
        lookInTheBestOrder();
        lookForWhatIsNeverOrAlwaysFound();
        lookInNoTime();
        lookOfLikeOnesTheFirst();
        lookForFewerThanBefore();
        lookForSix();
        lookNotSoMany();
        lookRefused();
        writeOffNoLess();
        writeOffForEachCause();
        writeOffWithoutCause();
        writeOffRefused();
        drawnByASeed();
        drawnNone();
        drawnBesideItsNumber();
        drawnRefused();
        Check.finish("TillTest");
    }

    private static ThriceCounted causes(int[]... rows) {
        ThriceCounted x = new ThriceCounted();
        for (int i = 0; i < rows.length; i++) {
            Check.due("cause " + i, x.cause(rows[i][0], rows[i][1], rows[i][2], rows[i][3]), i);
        }
        return x;
    }

    private static int[] row(int n, int o, int w, int m) {
        return new int[] {n, o, w, m};
    }

    // ---- promises 25 and 26

    /** "CAUSES 0 .. 5, as they come"; "FULL: 6". */
    private static void causesAsTheyCome() {
        ThriceCounted x = new ThriceCounted();
        for (int i = 0; i < 6; i++) {
            Check.due("cause " + i, x.cause(0, 1, 0, 0), i);
            Check.due("causes", x.count(3), i + 1);
        }
        Check.full("a 7th cause", x, () -> x.cause(0, 1, 0, 0));
        Check.bad("BAD ahead of FULL", x, () -> x.cause(0, 21, 0, 0));
    }

    /** "n (-99 .. 99) so, ODDS o (1 .. 20), .. w MINUTES (0 .. 30), .. m of 10 (0 .. 10)". */
    private static void causesAtTheirLimits() {
        ThriceCounted x = causes(row(-99, 1, 0, 0), row(99, 20, 30, 10));
        Check.bad("n -100", x, () -> x.cause(-100, 1, 0, 0));
        Check.bad("n 100", x, () -> x.cause(100, 1, 0, 0));
        Check.bad("o 0", x, () -> x.cause(0, 0, 0, 0));
        Check.bad("o 21", x, () -> x.cause(0, 21, 0, 0));
        Check.bad("w -1", x, () -> x.cause(0, 1, -1, 0));
        Check.bad("w 31", x, () -> x.cause(0, 1, 31, 0));
        Check.bad("m -1", x, () -> x.cause(0, 1, 0, -1));
        Check.bad("m 11", x, () -> x.cause(0, 1, 0, 11));
        Check.due("the least n", x.why(-99, 1), 0);
        Check.due("the most n", x.why(99, 1), 11);
    }

    /** "No CAUSES: how many there were." */
    private static void forgetSomeAndNone() {
        ThriceCounted x = new ThriceCounted();
        Check.due("forget none", x.forget(), 0);
        x.cause(4, 1, 1, 1);
        Check.due("forget one", x.forget(), 1);
        Check.due("none is left", x.count(3), 0);
        Check.due("nor why", x.why(4, 0), 0);
        for (int i = 0; i < 6; i++) {
            x.cause(4, 1, 1, 1);
        }
        Check.due("forget six", x.forget(), 6);
        Check.due("forget again", x.forget(), 0);
        Check.due("the first anew", x.cause(5, 1, 1, 1), 0);
        Check.due("why by it", x.why(5, 1), 0);
        Check.due("and not by those forgotten", x.why(4, 0), 0);
        ThriceCounted y = States.FULL.make();
        Check.due("forget of full", y.forget(), 6);
        Check.due("its counts stay", y.count(2), 8);
        Check.due("what may be undone stays", y.count(4), 8);
    }

    // ---- promise 27

    private static void whyCountsOnesAndPairs() {
        ThriceCounted x = causes(row(5, 10, 1, 1), row(-5, 20, 1, 1), row(5, 10, 1, 1), row(10, 9, 1, 1));
        Check.unchanged("5: 0, 2 and 1 with 3", x, 3, () -> x.why(5, 0));
        Check.due("10: 3 and 0 with 2", x.why(10, 0), 2);
        Check.due("one alone", x.why(10, 1), 33);
        Check.due("0: two pairs", x.why(0, 0), 2);
        Check.due("15: two pairs", x.why(15, 0), 2);
        Check.due("-5: one alone", x.why(-5, 0), 1);
        Check.due("it is 1", x.why(-5, 1), 11);
        ThriceCounted y = causes(row(0, 1, 1, 1), row(7, 3, 1, 1));
        Check.due("7: 1, and 0 with 1", y.why(7, 0), 2);
        Check.due("one alone has the most odds", y.why(7, 1), 11);
        Check.due("0: 0 alone, not twice", y.why(0, 0), 1);
    }

    private static void whyNone() {
        ThriceCounted off = causes(row(1, 1, 1, 1), row(-2, 1, 1, 1));
        Check.due("-1: the pair alone", off.why(-1, 0), 1);
        off.forget();
        Check.due("-1 of no causes", off.why(-1, 0), 0);
        ThriceCounted x = causes(row(10, 20, 1, 1));
        Check.unchanged("not one twice", x, 0, () -> x.why(20, 0));
        Check.unchanged("none", x, -1, () -> x.why(20, 1));
        Check.unchanged("not without its sign", x, -1, () -> x.why(-10, 1));
        ThriceCounted y = new ThriceCounted();
        Check.unchanged("no causes", y, 0, () -> y.why(0, 0));
        Check.unchanged("no causes", y, -1, () -> y.why(0, 1));
    }

    /** "A TILL is off by d (-198 .. 198)". */
    private static void whyAtTheFarthest() {
        ThriceCounted x = causes(row(99, 1, 1, 1), row(99, 1, 1, 1), row(-99, 20, 1, 1), row(-99, 20, 1, 1));
        Check.due("198", x.why(198, 0), 1);
        Check.due("a pair of 1 and 1 by 20 is 0, cut, and yet the likeliest", x.why(198, 1), 1);
        Check.due("-198", x.why(-198, 0), 1);
        Check.due("-198", x.why(-198, 1), 23);
        Check.due("197", x.why(197, 0), 0);
    }

    /** "of a pair: their product by 20, cut". */
    private static void whyOfPairsByTheirProduct() {
        // 10 alone by 9; 1 with 9 by 10 * 19 / 20 = 9, cut: alike; by 10 * 20 / 20 = 10: more.
        ThriceCounted x = causes(row(10, 9, 1, 1), row(1, 10, 1, 1), row(9, 19, 1, 1));
        Check.due("9.5 is 9: the first", x.why(10, 1), 0);
        ThriceCounted y = causes(row(10, 9, 1, 1), row(1, 10, 1, 1), row(9, 20, 1, 1));
        Check.due("10 is more than 9", y.why(10, 1), 12);
        // 19 * 19 / 20 is 18.
        ThriceCounted z = causes(row(4, 19, 1, 1), row(6, 19, 1, 1), row(10, 18, 1, 1));
        Check.due("18 alike: the pair is the first", z.why(10, 1), 1);
        ThriceCounted more = causes(row(4, 19, 1, 1), row(6, 19, 1, 1), row(10, 19, 1, 1));
        Check.due("19 is more than 18", more.why(10, 1), 22);
    }

    /** "that of most ODDS", wherever it stands. */
    private static void whyOfMostOdds() {
        for (int most = 0; most < 4; most++) {
            ThriceCounted x = new ThriceCounted();
            for (int i = 0; i < 4; i++) {
                x.cause(6, i == most ? 20 : 19 - i, 1, 1);
            }
            Check.due("the one of most odds", x.why(6, 1), 11 * most);
            Check.due("the pair of most odds", x.why(12, 1), most == 0 ? 1 : most);
        }
        ThriceCounted y = causes(row(1, 20, 1, 1), row(2, 20, 1, 1), row(3, 5, 1, 1), row(0, 20, 1, 1));
        Check.due("a pair ahead of one, and of one more pair", y.why(3, 1), 1);
    }

    /** "of like ones the first (10 i and j, rising)". */
    private static void whyOfLikeOnesTheFirst() {
        ThriceCounted x = causes(row(5, 10, 1, 1), row(-5, 20, 1, 1), row(5, 10, 1, 1), row(10, 10, 1, 1));
        Check.due("0, 2 and 1 with 3 alike", x.why(5, 1), 0);
        Check.due("0 with 1, 1 with 2 alike", x.why(0, 1), 1);
        Check.due("0 with 3, 2 with 3 alike", x.why(15, 1), 3);
        ThriceCounted y = causes(row(3, 20, 1, 1), row(10, 19, 1, 1), row(7, 19, 1, 1));
        Check.due("0 with 2 is ahead of 1 alone", y.why(10, 1), 2);
        ThriceCounted z = causes(row(10, 19, 1, 1), row(3, 20, 1, 1), row(7, 19, 1, 1));
        Check.due("0 alone is ahead of 1 with 2", z.why(10, 1), 0);
    }

    private static void whyOfSix() {
        ThriceCounted x = causes(row(0, 20, 1, 1), row(0, 20, 1, 1), row(0, 20, 1, 1), row(0, 20, 1, 1),
                row(0, 20, 1, 1), row(0, 20, 1, 1));
        Check.due("six and fifteen pairs", x.why(0, 0), 21);
        Check.due("the first", x.why(0, 1), 0);
        ThriceCounted y = causes(row(1, 1, 1, 1), row(1, 1, 1, 1), row(1, 1, 1, 1), row(1, 1, 1, 1), row(2, 1, 1, 1),
                row(3, 1, 1, 1));
        Check.due("the last pair", y.why(5, 1), 45);
        Check.due("the last alone", y.why(3, 1), 55);
        Check.due("3: it, and four pairs with 2", y.why(3, 0), 5);
    }

    private static void whyRefused() {
        ThriceCounted x = causes(row(99, 1, 1, 1), row(99, 1, 1, 1));
        Check.bad("why(-199, 0)", x, () -> x.why(-199, 0));
        Check.bad("why(199, 0)", x, () -> x.why(199, 0));
        Check.bad("why(0, -1)", x, () -> x.why(0, -1));
        Check.bad("why(0, 2)", x, () -> x.why(0, 2));
    }

    // ---- promise 28

    private static void look(ThriceCounted x, int d, int[] order, long above, long below) {
        for (int i = 0; i < order.length; i++) {
            Check.due("look(" + d + ", " + i + ")", x.look(d, i), order[i]);
            Check.fraction("look(" + d + ", " + i + ")", x, above, below);
        }
        Check.unchanged("look(" + d + ", " + order.length + ")", x, -5, () -> x.look(d, order.length));
    }

    /** One alone: it takes its minutes, found or not. */
    private static void lookForOne() {
        ThriceCounted x = causes(row(-99, 1, 30, 0), row(99, 20, 30, 10), row(1, 20, 0, 5), row(-1, 1, 1, 1));
        look(x, -99, new int[] {0}, 30, 1);
        look(x, 99, new int[] {1}, 30, 1);
        look(x, 1, new int[] {2}, 0, 1);
        look(x, -1, new int[] {3}, 1, 1);
    }

    /** "the mean: the order of which that is least". */
    private static void lookInTheBestOrder() {
        // By minutes 10 and 2: 0 1 takes (1*10 + 1*12)/2, 1 0 takes (1*2 + 1*12)/2.
        ThriceCounted x = causes(row(4, 1, 10, 10), row(4, 1, 2, 10), row(-4, 3, 7, 5));
        look(x, 4, new int[] {1, 0}, 7, 1);
        look(x, -4, new int[] {2}, 7, 1);
        // By odds 1 and 2: 1 0 takes (2*6 + 1*12)/3.
        ThriceCounted y = causes(row(4, 1, 6, 10), row(4, 2, 6, 10));
        look(y, 4, new int[] {1, 0}, 8, 1);
        // By how often they are found, 5 and 6 of 10: 1 0 takes (6*6 + 4*12 + 10*12)/20.
        ThriceCounted z = causes(row(4, 1, 6, 5), row(4, 1, 6, 6));
        look(z, 4, new int[] {1, 0}, 51, 5);
    }

    /** "MINUTES till it is found, else all". */
    private static void lookForWhatIsNeverOrAlwaysFound() {
        // Found by half: 1 0 takes (3*(5*6+5*7) + 1*7*10)/(10*4), the other way about (3*70 + 1*70)/40.
        ThriceCounted x = causes(row(1, 1, 1, 0), row(1, 3, 6, 5));
        look(x, 1, new int[] {1, 0}, 53, 8);
        ThriceCounted never = causes(row(1, 1, 5, 0), row(1, 20, 1, 0), row(1, 2, 3, 0));
        look(never, 1, new int[] {0, 1, 2}, 9, 1);
        // Always: 2 ahead of 1 ahead of 0: (2*1 + 3*3 + 1*7)/6.
        ThriceCounted always = causes(row(1, 1, 4, 10), row(1, 3, 2, 10), row(1, 2, 1, 10));
        look(always, 1, new int[] {2, 1, 0}, 3, 1);
    }

    private static void lookInNoTime() {
        ThriceCounted x = causes(row(1, 1, 0, 0), row(1, 20, 0, 10), row(1, 2, 0, 5));
        look(x, 1, new int[] {0, 1, 2}, 0, 1);
        // What takes no time comes ahead of what does: (1*10*0 + 2*(10*4))/(10*3).
        ThriceCounted y = causes(row(1, 2, 4, 10), row(1, 1, 0, 10));
        look(y, 1, new int[] {1, 0}, 8, 3);
    }

    /** "of like ones the first". */
    private static void lookOfLikeOnesTheFirst() {
        ThriceCounted x = causes(row(0, 2, 4, 10), row(0, 1, 0, 0), row(0, 1, 2, 10), row(0, 20, 10, 10));
        int[] due = {1, 3, 0, 2};
        for (int i = 0; i < 4; i++) {
            Check.due("look(0, " + i + ")", x.look(0, i), due[i]);
        }
        ThriceCounted y = causes(row(0, 1, 0, 0), row(0, 1, 5, 0), row(0, 1, 0, 0));
        look(y, 0, new int[] {0, 1, 2}, 5, 1);
        ThriceCounted alike = causes(row(6, 1, 1, 10), row(5, 1, 1, 1), row(6, 1, 1, 10), row(6, 1, 1, 10));
        look(alike, 6, new int[] {0, 2, 3}, 2, 1);
    }

    private static void lookForFewerThanBefore() {
        ThriceCounted x = causes(row(9, 1, 9, 10), row(9, 20, 1, 10), row(5, 2, 30, 10), row(9, 2, 8, 10),
                row(5, 3, 30, 10), row(9, 3, 7, 10));
        Check.due("1, 5, 3, 0", x.look(9, 0) * 1000 + x.look(9, 1) * 100 + x.look(9, 2) * 10 + x.look(9, 3), 1530);
        // (3*30 + 2*60)/5.
        look(x, 5, new int[] {4, 2}, 42, 1);
    }

    private static void lookForSix() {
        ThriceCounted x = causes(row(9, 1, 30, 1), row(9, 2, 20, 2), row(9, 3, 15, 4), row(9, 4, 12, 5),
                row(9, 5, 6, 7), row(9, 20, 1, 10));
        // Until 1, 7, 19, 34, 54, 84: 20*10*1, 5*(7*7+3*84), 4*(5*19+5*84), 3*(4*34+6*84), 2*(2*54+8*84), 1*10*84,
        // together 8085, by ten times the odds 35.
        look(x, 9, new int[] {5, 4, 3, 2, 1, 0}, 231, 10);
        ThriceCounted most = causes(row(9, 20, 30, 10), row(9, 20, 30, 10), row(9, 20, 30, 10), row(9, 20, 30, 10),
                row(9, 20, 30, 10), row(9, 20, 30, 10));
        look(most, 9, new int[] {0, 1, 2, 3, 4, 5}, 105, 1);
    }

    /** "-5: not so many"; "THE FRACTION (as it was, where -5 is answered)". */
    private static void lookNotSoMany() {
        ThriceCounted x = causes(row(4, 1, 10, 10), row(4, 1, 2, 10), row(-4, 3, 7, 5));
        Check.unchanged("0 by 1 at first stays", x, -5, () -> x.look(4, 2));
        x.look(4, 0);
        for (int i : new int[] {2, 3, 4, 5, 6, 7, 100, Integer.MAX_VALUE}) {
            Check.unchanged("look(4, " + i + ")", x, -5, () -> x.look(4, i));
        }
        Check.unchanged("none of that n", x, -5, () -> x.look(5, 0));
        Check.unchanged("a pair is not looked for", x, -5, () -> x.look(8, 0));
        Check.unchanged("198", x, -5, () -> x.look(198, 0));
        Check.unchanged("-198", x, -5, () -> x.look(-198, 0));
        Check.fraction("it is as it was", x, 7, 1);
        ThriceCounted y = new ThriceCounted();
        Check.unchanged("no causes", y, -5, () -> y.look(0, 0));
    }

    private static void lookRefused() {
        ThriceCounted x = causes(row(4, 1, 10, 10));
        x.look(4, 0);
        Check.refused("look(-199, 0)", x, Check.BAD, -10, () -> x.look(-199, 0));
        Check.refused("look(199, 0)", x, Check.BAD, -10, () -> x.look(199, 0));
        Check.refused("look(4, -1)", x, Check.BAD, -10, () -> x.look(4, -1));
        Check.refused("look(5, -1)", x, Check.BAD, -10, () -> x.look(5, -1));
        Check.refused("BAD ahead of -5", x, Check.BAD, -10, () -> x.look(199, 9));
        Check.fraction("it is as it was", x, 10, 1);
    }

    // ---- promise 29

    /** "10 times p times w is no less than d (without its sign) times m". */
    private static void writeOffNoLess() {
        ThriceCounted x = causes(row(30, 1, 6, 10), row(-30, 1, 1, 3), row(95, 1, 1, 1), row(0, 1, 0, 10),
                row(99, 1, 30, 10), row(-99, 1, 0, 0));
        Check.unchanged("10*4*6 below 30*10", x, 0, () -> x.writeOff(30, 4));
        Check.unchanged("10*5*6 is 30*10", x, 1, () -> x.writeOff(30, 5));
        Check.due("without its sign: 80 below 90", x.writeOff(-30, 8), 0);
        Check.due("90 is 90", x.writeOff(-30, 9), 1);
        Check.due("90 below 95", x.writeOff(95, 9), 0);
        Check.due("100 above 95", x.writeOff(95, 10), 1);
        Check.due("off by nothing", x.writeOff(0, 0), 1);
        Check.due("10*3*30 below 990", x.writeOff(99, 3), 0);
        Check.due("10*4*30 above 990", x.writeOff(99, 4), 1);
        Check.due("99 a minute", x.writeOff(99, 99), 1);
        Check.due("never found, at nothing a minute", x.writeOff(-99, 0), 1);
        x.forget();
        x.cause(1, 1, 0, 1);
        Check.due("in no time it is always worth a look", x.writeOff(1, 99), 0);
    }

    /** "for each CAUSE of n d". */
    private static void writeOffForEachCause() {
        for (int worth = 0; worth < 6; worth++) {
            ThriceCounted x = new ThriceCounted();
            for (int i = 0; i < 6; i++) {
                x.cause(30, 1, i == worth ? 5 : 6, 10);
            }
            Check.due("one of six is worth a look", x.writeOff(30, 5), 0);
            Check.due("none is", x.writeOff(30, 6), 1);
        }
        ThriceCounted x = causes(row(30, 1, 6, 10), row(-30, 1, 5, 10), row(29, 1, 0, 10));
        Check.due("those of other n do not matter", x.writeOff(30, 5), 1);
    }

    private static void writeOffWithoutCause() {
        ThriceCounted x = new ThriceCounted();
        Check.unchanged("no causes", x, 1, () -> x.writeOff(198, 0));
        Check.unchanged("no causes", x, 1, () -> x.writeOff(-198, 99));
        Check.unchanged("no causes", x, 1, () -> x.writeOff(-1, 99));
        x.cause(99, 20, 0, 10);
        x.cause(99, 20, 0, 10);
        Check.unchanged("a pair is not looked for", x, 1, () -> x.writeOff(198, 0));
    }

    private static void writeOffRefused() {
        ThriceCounted x = new ThriceCounted();
        Check.bad("writeOff(-199, 0)", x, () -> x.writeOff(-199, 0));
        Check.bad("writeOff(199, 0)", x, () -> x.writeOff(199, 0));
        Check.bad("writeOff(0, -1)", x, () -> x.writeOff(0, -1));
        Check.bad("writeOff(0, 100)", x, () -> x.writeOff(0, 100));
    }

    // ---- promise 30

    private static void drawnByASeed() {
        int[] seeds = {0, 1, 5, 77, 65536, 999999};
        for (int way = 0; way < 6; way++) {
            for (int seed : seeds) {
                for (int n : new int[] {0, 1, 2, 15, 30, 45, 59, 60}) {
                    drawn(way, n % 2 == 0 ? 80 : 120, seed, n);
                }
            }
        }
        ThriceCounted x = new ThriceCounted();
        // 0 becomes 12345, whose slip is 0; 1 becomes 1103527590, by 65536 cut 16838, whose slip is 18.
        Check.due("seed 0: off by -1", x.drawn(0, 100, 1, 0, 1), 99);
        Check.due("seed 1: right", x.drawn(0, 100, 1, 1, 0), 1);
        Check.due("seed 1: 100", x.drawn(0, 100, 1, 1, 2), 100);
    }

    private static void drawn(int way, int t, int seed, int n) {
        ThriceCounted x = new ThriceCounted();
        int wrap = seed;
        int right = 0;
        int least = n == 0 ? -1 : 999;
        int greatest = -1;
        for (int i = 0; i < n; i++) {
            // What is left over by 2^31 is the lower 31 bits.
            wrap = (wrap * 1103515245 + 12345) & 0x7fffffff;
            int told = t + x.way(way, (wrap >>> 16) % 20);
            right += told == t ? 1 : 0;
            least = Math.min(least, told);
            greatest = Math.max(greatest, told);
        }
        String call = "drawn(" + way + ", " + t + ", " + n + ", " + seed + ")";
        Check.due(call + " right", x.drawn(way, t, n, seed, 0), right);
        Check.due(call + " least", x.drawn(way, t, n, seed, 1), least);
        Check.due(call + " greatest", x.drawn(way, t, n, seed, 2), greatest);
    }

    /** "NONE: no COUNTS". */
    private static void drawnNone() {
        ThriceCounted x = new ThriceCounted();
        Check.unchanged("how often", x, 0, () -> x.drawn(0, 100, 0, 0, 0));
        Check.unchanged("the least of none", x, -1, () -> x.drawn(0, 100, 0, 0, 1));
        Check.unchanged("the greatest of none", x, -1, () -> x.drawn(0, 100, 0, 0, 2));
    }

    /** What is told may be below 80 and above 120 here; and it is no COUNT of the bank. */
    private static void drawnBesideItsNumber() {
        ThriceCounted x = new ThriceCounted();
        Check.unchanged("79", x, 79, () -> x.drawn(0, 80, 1, 0, 1));
        Check.unchanged("75 by fives", x, 75, () -> x.drawn(1, 80, 60, 5, 1));
        Check.unchanged("123 by height", x, 123, () -> x.drawn(3, 120, 60, 5, 2));
    }

    private static void drawnRefused() {
        ThriceCounted x = new ThriceCounted();
        Check.bad("way 6", x, () -> x.drawn(6, 100, 1, 0, 0));
        Check.bad("way -1", x, () -> x.drawn(-1, 100, 1, 0, 0));
        Check.bad("t 79", x, () -> x.drawn(0, 79, 1, 0, 0));
        Check.bad("t 121", x, () -> x.drawn(0, 121, 1, 0, 0));
        Check.bad("n -1", x, () -> x.drawn(0, 100, -1, 0, 0));
        Check.bad("n 61", x, () -> x.drawn(0, 100, 61, 0, 0));
        Check.bad("seed -1", x, () -> x.drawn(0, 100, 1, -1, 0));
        Check.bad("seed 1000000", x, () -> x.drawn(0, 100, 1, 1000000, 0));
        Check.bad("what -1", x, () -> x.drawn(0, 100, 1, 0, -1));
        Check.bad("what 3", x, () -> x.drawn(0, 100, 1, 0, 3));
        Check.bad("none drawn, and a wrong what", x, () -> x.drawn(0, 100, 0, 0, 3));
    }
}
