/** Promise 11 and the TEXT: what is read, what it takes the place of, and every FAULT, by its place. */
public final class TextTest {
    private static final String ONE = "bank;clerk 1;bundle 90 99;";

    public static void main(String[] args) {
        itemsAreCounted();
        numbersAtTheirLimits();
        numbersOfOneToThreeFigures();
        blanksBetween();
        lastBandCounts();
        everyLimitReached();
        textOf150Bytes();
        readAgainAndAgain();
        takesThePlaceOfAll();
        keepsImagesTextFractionStatus();
        bytesAtTheBeginning();
        bytesBehindAWord();
        bytesBehindANumber();
        bytesBehindAnItem();
        wordThatIsNone();
        bankOnceFirstOfAll();
        sixthClerk();
        sixthBundle();
        ninthCount();
        fourthFigure();
        numberNotAsTold();
        bundleOrClerkNotThereYet();
        highBelowLow();
        byteThatBeginsNone();
        tokenOfAnotherKind();
        endsTooEarly();
        firstFaultOfSeveral();
        Check.finish("TextTest");
    }

    private static void reads(String text, int items) {
        ThriceCounted x = new ThriceCounted();
        Check.due("read of '" + text + "'", Check.read(x, text), items);
    }

    /** "-10 less the FAULT: all stays", STATUS too. */
    private static void fault(String text, int place) {
        ThriceCounted x = States.ONE.make();
        ThriceCounted twin = States.ONE.make();
        Check.typeText(x, text);
        Check.typeText(twin, text);
        Check.due("read of '" + text + "'", x.read(), -10 - place);
        Seen.of(x).dueAs("read of '" + text + "'", Seen.of(twin), -1);
    }

    // ---- what is read

    /** "how many ITEMS": bank is one of them. */
    private static void itemsAreCounted() {
        reads("bank;", 1);
        reads("bank;clerk 1;", 2);
        reads(ONE, 3);
        reads(ONE + "band 0 95 0;", 4);
        reads(ONE + "band 0 95 0;count 0 0 0 95;", 5);
    }

    private static void numbersAtTheirLimits() {
        ThriceCounted x = Check.readNew("bank;clerk 0;clerk 10;bundle 90 90;bundle 110 110;bundle 90 110;"
                + "band 0 90 0;band 2 110 1;count 0 0 0 80;count 2 5 1 120;");
        int[][] bundles = {{90, 90, 90, 0, 1}, {110, 110, -1, -1, 0}, {90, 110, 110, 1, 1}};
        for (int bundle = 0; bundle < 3; bundle++) {
            for (int what = 0; what < 5; what++) {
                Check.due("about(" + bundle + ", " + what + ")", x.about(bundle, what), bundles[bundle][what]);
            }
        }
        int[][] counts = {{0, 0, 0, 80}, {2, 5, 1, 120}};
        for (int count = 0; count < 2; count++) {
            for (int what = 0; what < 4; what++) {
                Check.due("of(" + count + ", " + what + ")", x.of(count, what), counts[count][what]);
            }
        }
        ThriceCounted trust = Check.readNew("bank;clerk 0;clerk 10;bundle 99 100;bundle 99 100;"
                + "band 0 99 0;band 1 99 1;");
        Check.due("trust 0: not what the band says", trust.truly(0, 0), 100);
        Check.due("trust 10: what the band says", trust.truly(1, 0), 99);
    }

    /** "figures (1 to 3 are one number)". */
    private static void numbersOfOneToThreeFigures() {
        reads("bank;clerk 7;clerk 07;clerk 007;clerk 010;clerk 000;", 6);
        ThriceCounted x = Check.readNew("bank;clerk 007;bundle 090 099;count 000 005 0 080;");
        Check.due("low", x.about(0, 0), 90);
        Check.due("way", x.of(0, 1), 5);
        Check.due("told", x.of(0, 3), 80);
    }

    /** "blanks (32) between": as many as one likes, none where two tokens are told apart without. */
    private static void blanksBetween() {
        reads("  bank  ;  clerk   10 ;bundle 090 110;  ", 3);
        reads("bank;clerk7;bundle90 110;band0 100 0;count0 0 0 99;", 5);
        fault("bank;bundle90110;", 11);
        fault("b ank;", 0);
        fault("bank;cl erk 1;", 5);
        fault("bank;clerk 1 0;", 13);
    }

    private static void lastBandCounts() {
        ThriceCounted x = Check.readNew("bank;clerk 0;clerk 9;bundle 95 99;band 0 95 1;band 0 99 0;");
        Check.due("the last one's number", x.about(0, 2), 99);
        Check.due("who signed it", x.about(0, 3), 0);
    }

    private static void everyLimitReached() {
        reads("bank;" + "clerk 1;".repeat(5), 6);
        reads("bank;" + "bundle 99 99;".repeat(5), 6);
        reads("bank;clerk 1;bundle 99 99;" + "count 0 0 0 99;".repeat(8), 11);
        ThriceCounted x = Check.readNew("bank;" + "clerk 1;".repeat(5) + "bundle 99 99;".repeat(5)
                + "band 4 99 4;count 4 0 4 99;");
        Check.due("the 5th clerk signed the 5th bundle", x.about(4, 3), 4);
        Check.due("the 5th bundle is counted", x.about(4, 4), 1);
    }

    private static void textOf150Bytes() {
        String items = ONE + "count 0 0 0 99;";
        reads(" ".repeat(150 - items.length()) + items, 4);
        reads(items + " ".repeat(150 - items.length()), 4);
        fault(items + " ".repeat(149 - items.length()) + "c", 149);
        fault(items + " ".repeat(149 - items.length()) + ";", 149);
        fault(" ".repeat(150), 150);
        fault("x".repeat(150), 0);
        fault("1".repeat(150), 0);
        fault("bank;" + " ".repeat(140) + "clerk", 150);
    }

    private static void readAgainAndAgain() {
        ThriceCounted x = Check.readNew(ONE);
        long digest = x.digest();
        x.clerk(2);
        x.tell(0, 0, 1, 95);
        Check.due("read again", x.read(), 3);
        Check.due("the same bank", x.digest(), digest);
        x.clear();
        Check.due("behind clear it is an empty one", x.read(), -10);
        Check.due("and all stays", x.count(1), 1);
    }

    // ---- what it takes the place of

    /** "A BANK that is read takes the place of all .. (CAUSES none; nothing to undo)". */
    private static void takesThePlaceOfAll() {
        for (States state : States.values()) {
            ThriceCounted x = state.make();
            Check.typeText(x, "bank;");
            Check.due(state + ": read", x.read(), 1);
            for (int what = 0; what <= 4; what++) {
                Check.due(state + ": count " + what, x.count(what), 0);
            }
            Check.no(state + ": nothing to undo", x, x::undo);
            x.clerk(1);
            Check.due(state + ": a bundle", x.bundle(95, 99), 0);
            Check.due(state + ": has no band", x.band(0, 95, 0), -1);
        }
    }

    /** ".. all but IMAGES, THE TEXT, THE FRACTION, STATUS". */
    private static void keepsImagesTextFractionStatus() {
        ThriceCounted x = Check.readNew("bank;clerk 1;bundle 90 99;bundle 90 99;");
        x.tell(0, 0, 0, 90);
        x.cause(1, 1, 1, 1);
        x.likely(0, 90);
        x.image(1);
        x.clerk(-1);
        x.from(0);
        Check.typeText(x, "bank;clerk 2;");
        Check.due("read", x.read(), 2);
        Check.due("the text stays", x.count(5), 13);
        Check.due("as it was", x.read(), 2);
        Check.fraction("the fraction stays", x, 17, 19);
        Check.due("BAD stays", x.status(0), 1);
        Check.due("NO stays", x.status(1), 1);
        Check.no("an image that was not kept is none", x, () -> x.from(0));
        Check.due("images stay", x.from(1), 1);
        Check.due("bundles of the image", x.count(1), 2);
        Check.due("causes of the image", x.count(3), 1);
        Check.due("undo of the image", x.undo(), 0);
    }

    // ---- which bytes are which

    private static boolean isLetter(int c) {
        return c >= 97 && c <= 122;
    }

    private static boolean isFigure(int c) {
        return c >= 48 && c <= 57;
    }

    /** No byte alone is a bank; a blank is no token, so the text ends behind it. */
    private static void bytesAtTheBeginning() {
        for (int c = 0; c < 128; c++) {
            fault(String.valueOf((char) c), c == 32 ? 1 : 0);
            fault((char) c + "bank", c == 32 ? 5 : 0);
        }
    }

    private static void bytesBehindAWord() {
        for (int c = 0; c < 128; c++) {
            String text = "bank" + (char) c;
            if (c == ';') {
                reads(text, 1);
            } else if (isLetter(c)) {
                fault(text, 0);
            } else {
                fault(text, c == 32 ? 5 : 4);
            }
        }
    }

    private static void bytesBehindANumber() {
        for (int c = 0; c < 128; c++) {
            String text = "bank;clerk 1" + (char) c;
            if (c == ';') {
                reads(text, 2);
            } else if (c == 32 || c == '0') {
                fault(text, 13);
            } else {
                fault(text, isFigure(c) ? 11 : 12);
            }
        }
    }

    private static void bytesBehindAnItem() {
        for (int c = 0; c < 128; c++) {
            String text = "bank;" + (char) c;
            if (c == 32) {
                reads(text, 1);
            } else {
                fault(text, 5);
            }
        }
    }

    // ---- FAULT: the first token that can not stand there

    /** "a word that is none". */
    private static void wordThatIsNone() {
        String[] firsts = {"ban", "banks", "bankz", "banka", "sank", "bans", "bonk", "bamk", "abank", "b"};
        for (String word : firsts) {
            fault(word + ";", 0);
        }
        String[] others = {"teller", "flerk", "cler", "clerks", "clark", "bundl", "bundles", "bindle", "ban", "bands",
            "bend", "coun", "counts", "caunt", "a", "z", "way", "text", "cause"};
        for (String word : others) {
            fault("bank;" + word + " 1;", 5);
            fault("bank;clerk 1;  " + word + " 1;", 15);
        }
    }

    /** "bank (once, first of all)"; "bank again, anything ahead of it". */
    private static void bankOnceFirstOfAll() {
        fault("bank;bank;", 5);
        fault("bank bank;", 5);
        fault("bank;clerk 1; bank;", 14);
        fault("bank;clerk 1;bank", 13);
        fault("clerk 3;bank;", 0);
        fault(" clerk 3;", 1);
        fault("bundle 90 90;bank;", 0);
        fault("band 0 90 0;bank;", 0);
        fault("count 0 0 0 90;bank;", 0);
        fault(";bank;", 0);
        fault("1 bank;", 0);
        fault("  ;", 2);
    }

    /** "a 6th clerk .. at its word". */
    private static void sixthClerk() {
        String five = "bank;" + "clerk 1;".repeat(5);
        fault(five + "clerk 1;", 45);
        fault(five + "clerk 11;", 45);
        fault(five + "clerk", 45);
        fault(five + "  clerk 1;", 47);
        fault(five + "bundle 90 99;clerk 1;", 58);
    }

    /** "a 6th bundle .. at its word". */
    private static void sixthBundle() {
        String five = "bank;" + "bundle 99 99;".repeat(5);
        fault(five + "bundle 99 99;", 70);
        fault(five + " bundle 1 1;", 71);
        fault(five + "bundle", 70);
        fault(five + "clerk 1;bundle 99 99;", 78);
    }

    /** "a 9th count at its word". */
    private static void ninthCount() {
        String eight = "bank;clerk1;bundle99 99;" + "count0 0 0 99;".repeat(8);
        reads(eight, 11);
        fault(eight + "count 0 0 0 9", 136);
        fault(eight + "count 0", 136);
        fault(eight + "count", 136);
        fault(eight + " count", 137);
        reads(eight + "clerk 5;", 12);
    }

    /** "a fourth figure's number": it is the number's first byte. */
    private static void fourthFigure() {
        fault("bank;clerk 0001;", 11);
        fault("bank;clerk 0000;", 11);
        fault("bank;clerk   0001;", 13);
        fault("bank;bundle 0099 99;", 12);
        fault("bank;bundle 1000 99;", 12);
        fault("bank;bundle 99 9999;", 15);
        fault("bank;bundle 99 0100;", 15);
        fault(ONE + "band 0 95 0000;", 36);
        fault("bank;clerk 12345678901234567890;", 11);
        fault("bank;clerk 4294967296;", 11);
        fault("bank;clerk 0001", 11);
    }

    /** "a number not as told": the first beyond each limit. */
    private static void numberNotAsTold() {
        fault("bank;clerk 11;", 11);
        fault("bank;clerk 999;", 11);
        fault("bank;bundle 89 99;", 12);
        fault("bank;bundle 111 111;", 12);
        fault("bank;bundle 90 111;", 15);
        fault("bank;bundle 0 99;", 12);
        fault(ONE + "band 1 95 0;", 31);
        fault(ONE + "band 0 89 0;", 33);
        fault(ONE + "band 0 111 0;", 33);
        fault(ONE + "band 0 95 1;", 36);
        fault(ONE + "count 1 0 0 90;", 32);
        fault(ONE + "count 90 0 0 90;", 32);
        fault(ONE + "count 0 6 0 90;", 34);
        fault(ONE + "count 0 0 1 90;", 36);
        fault(ONE + "count 0 0 0 79;", 38);
        fault(ONE + "count 0 0 0 121;", 38);
    }

    /** "also a BUNDLE, a CLERK that is not there yet". */
    private static void bundleOrClerkNotThereYet() {
        fault("bank;band 0 99 0;", 10);
        fault("bank;count 0 0 0 99;", 11);
        fault("bank;clerk 1;band 0 99 0;bundle 90 99;", 18);
        fault("bank;bundle 90 99;band 0 99 0;clerk 1;", 28);
        fault("bank;clerk 1;count 0 0 0 99;bundle 90 99;", 19);
        fault("bank;bundle 90 99;count 0 0 0 99;clerk 1;", 28);
        fault(ONE + "band 1 99 0;bundle 90 99;", 31);
        reads(ONE + "bundle 90 99;band 1 99 0;", 5);
        fault(ONE + "count 0 0 1 90;clerk 1;", 36);
        reads(ONE + "clerk 1;count 0 0 1 90;", 5);
    }

    /** "HIGH below LOW": at HIGH. */
    private static void highBelowLow() {
        reads("bank;bundle 99 99;", 2);
        reads("bank;bundle 99 100;", 2);
        fault("bank;bundle 99 98;", 15);
        fault("bank;bundle 110 109;", 16);
        fault("bank;bundle 91 90;", 15);
    }

    /** "a byte that begins none": whatever token is due there. */
    private static void byteThatBeginsNone() {
        char[] strange = {0, 9, 10, 13, 31, 33, 47, 58, 60, 64, 'A', 'Z', 91, 96, 123, 127};
        for (char c : strange) {
            fault(c + "bank;", 0);
            fault("bank" + c + ";", 4);
            fault("bank;" + c, 5);
            fault("bank;clerk " + c + "1;", 11);
            fault("bank;clerk 1" + c + ";", 12);
            fault("bank;bundle 9" + c + "0 99;", 12);
            fault("bank;bundle 90" + c + "99;", 14);
            fault("bank;clerk 1;" + c, 13);
        }
        fault("bank;clerk -1;", 11);
        fault("bank;clerk +1;", 11);
        fault("bank;clerk 1.0;", 12);
        fault("bank;Clerk 1;", 5);
        fault("bank;cLerk 1;", 5);
    }

    /** A word, a number or a ; where another kind of token is due. */
    private static void tokenOfAnotherKind() {
        fault("bank 1;", 5);
        fault("bank;;", 5);
        fault("bank;1;", 5);
        fault("bank;clerk ;", 11);
        fault("bank;clerk x;", 11);
        fault("bank;clerk clerk;", 11);
        fault("bank;clerk 1 1;", 13);
        fault("bank;clerk 1x;", 12);
        fault("bank;clerk 1 clerk 1;", 13);
        fault("bank;bundle ;", 12);
        fault("bank;bundle 99;", 14);
        fault("bank;bundle 90 ;", 15);
        fault("bank;bundle 90 99 100;", 18);
        fault("bank;band ;", 10);
        fault(ONE + "band 0;", 32);
        fault(ONE + "band 0 90;", 35);
        fault(ONE + "band 0 90 x;", 36);
        fault(ONE + "band 0 90 0 0;", 38);
        fault("bank;count ;", 11);
        fault(ONE + "count 0;", 33);
        fault(ONE + "count 0 0;", 35);
        fault(ONE + "count 0 0 0;", 37);
        fault(ONE + "count 0 0 0 x;", 38);
        fault(ONE + "count 0 0 0 90 1;", 41);
    }

    /** "the TEXT's length, if it ends too early (an empty one, too)". */
    private static void endsTooEarly() {
        String[] good = {"", " ", "bank", "bank ", "bank;clerk", "bank;clerk 1", "bank;clerk 1  ", "bank;bundle",
            "bank;bundle 90", "bank;bundle 90 99", "bank;clerk 1;bundle 90 99;band", ONE + "band 0", ONE + "band 0 90",
            ONE + "band 0 90 0", ONE + "band 0 90 0 ", ONE + "count", ONE + "count 0", ONE + "count 0 0",
            ONE + "count 0 0 0", ONE + "count 0 0 0 90", ONE + "count 0 0 0 90   "};
        for (String text : good) {
            fault(text, text.length());
        }
        // What ends in the midst of a token that can not stand there as it is has its fault there.
        fault("ban", 0);
        fault("bank;cler", 5);
        fault("bank;bundle 9", 12);
        fault("bank;bundle 90 9", 15);
        fault(ONE + "count 0 0 0 9", 38);
    }

    /** "the first TOKEN": what comes behind does not matter. */
    private static void firstFaultOfSeveral() {
        fault("bonk;clerk 11;", 0);
        fault("bank;clerk 11;bundle 1 1;!", 11);
        fault("bank;bundle 111 89;", 12);
        fault("bank;bundle 99 98 97", 15);
        fault(ONE + "count 9 9 9 999;", 32);
        fault(ONE + "count 0 9 9 999;", 34);
        fault(ONE + "count 0 0 9 999;", 36);
        fault(ONE + "band 9 9 9;", 31);
        fault(ONE + "band 0 9 9;", 33);
        fault("bank;clerk 1;teller 1;clerk", 13);
    }
}
