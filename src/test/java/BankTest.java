/** Promises 1 to 10: a new object, bank, clerk, bundle, band, tell, back, undo, type, clear. */
public final class BankTest {
    private static final String ONE = "bank;clerk 1;bundle 90 99;";

    public static void main(String[] args) {
        nobodyNothingAtFirst();
        objectsAreApart();
        rightUpToTheLastCall();
        bankPutsAllAsAtFirst();
        bankTellsHowManyBundlesThereWere();
        bankMakesRoomAgain();
        clerksAsTheyCome();
        bundlesAsTheyCome();
        bandNoneAtFirst();
        bandLastOneToldCounts();
        bandOutsideItsBundle();
        countsAsTheyCome();
        ninthCountWhenOneIsGone();
        backOfFirstMiddleAndLast();
        backOfEight();
        backOfNone();
        undoOfTellAndBack();
        undoOfBackOfEight();
        undoOfCountsAlone();
        undoNoneMayBe();
        undoKeepsEightAtMost();
        undoAndThenOn();
        undoIsNotUndone();
        bytesOneAfterAnother();
        textOf150();
        clearOfEmptyAndFull();
        Check.finish("BankTest");
    }

    // ---- promise 1

    /** "As told; nobody, nothing." */
    private static void nobodyNothingAtFirst() {
        ThriceCounted x = new ThriceCounted();
        for (int what = 0; what <= 5; what++) {
            Check.due("new: count " + what, x.count(what), 0);
        }
        for (int what = 0; what <= 2; what++) {
            Check.due("new: status " + what, x.status(what), 0);
        }
        Check.fraction("new", x, 0, 1);
        Check.no("new: from 0", x, () -> x.from(0));
        Check.no("new: from 1", x, () -> x.from(1));
        Check.no("new: undo", x, x::undo);
        Check.unchanged("new: read", x, -10, x::read);
    }

    private static void objectsAreApart() {
        ThriceCounted other = States.FULL.make();
        ThriceCounted x = new ThriceCounted();
        States.ONE.make();
        // 937 times 31 eight times, with the 1 below THE FRACTION.
        Check.due("a new one is empty beside a full one", x.digest(), 799_158_902_082_218L);
        Seen.of(other).dueAs("a full one beside others", Seen.of(States.FULL.make()), -1);
    }

    /** "An object is used for at most 512 calls after it has been made". */
    private static void rightUpToTheLastCall() {
        ThriceCounted x = new ThriceCounted();
        for (int i = 0; i < 511; i++) {
            x.undo();
        }
        Check.due("the 512th call", x.status(1), 511);
        ThriceCounted y = Check.readNew(ONE);
        for (int calls = ONE.length() + 2; calls < 508; calls += 2) {
            y.tell(0, 0, 0, 95);
            y.back(0);
        }
        Check.due("the 509th call", y.tell(0, 0, 0, 95), 0);
        Check.due("the 510th call", y.tell(0, 0, 0, 95), 1);
        Check.due("the 511th call", y.undo(), 1);
        Check.due("the 512th call", y.tell(0, 5, 0, 120), 1);
    }

    // ---- promise 2

    /** "All as at first": what is held, THE TEXT, THE FRACTION, STATUS, IMAGES, what may be undone. */
    private static void bankPutsAllAsAtFirst() {
        for (States state : States.values()) {
            ThriceCounted x = state.make();
            x.bank();
            Seen.of(x).dueAs("bank of " + state, Seen.of(new ThriceCounted()), -1);
        }
    }

    private static void bankTellsHowManyBundlesThereWere() {
        ThriceCounted x = new ThriceCounted();
        Check.due("bank of none", x.bank(), 0);
        for (int many = 1; many <= 5; many++) {
            for (int i = 0; i < many; i++) {
                x.bundle(90, 110);
            }
            Check.due("bank of " + many, x.bank(), many);
            Check.due("bank again", x.bank(), 0);
        }
    }

    private static void bankMakesRoomAgain() {
        ThriceCounted x = States.FULL.make();
        x.bank();
        Check.due("the first clerk", x.clerk(3), 0);
        Check.due("the first bundle", x.bundle(90, 99), 0);
        Check.due("without its band", x.about(0, 2), -1);
        Check.due("without who signed", x.about(0, 3), -1);
        Check.due("the first count", x.tell(0, 0, 0, 95), 0);
        Check.due("the first cause", x.cause(1, 1, 1, 1), 0);
        Check.due("the first byte", x.type(98), 1);
        Check.due("the first to undo", x.undo(), 0);
        Check.no("and no more", x, x::undo);
    }

    // ---- promises 3 and 4

    /** "CLERKS 0 .. 4, as they come"; "FULL: 5". */
    private static void clerksAsTheyCome() {
        ThriceCounted x = new ThriceCounted();
        Check.bad("clerk(-1)", x, () -> x.clerk(-1));
        Check.bad("clerk(11)", x, () -> x.clerk(11));
        for (int i = 0; i < 5; i++) {
            Check.due("clerk", x.clerk(i % 2 == 0 ? 0 : 10), i);
            Check.due("clerks", x.count(0), i + 1);
        }
        Check.full("a 6th clerk", x, () -> x.clerk(5));
        Check.bad("BAD ahead of FULL", x, () -> x.clerk(11));
    }

    /** "BUNDLES 0 .. 4, as they come: LOW to HIGH (90 .. 110, LOW no more than HIGH)"; "FULL: 5". */
    private static void bundlesAsTheyCome() {
        ThriceCounted x = new ThriceCounted();
        Check.bad("bundle(89, 100)", x, () -> x.bundle(89, 100));
        Check.bad("bundle(90, 111)", x, () -> x.bundle(90, 111));
        Check.bad("bundle(100, 99)", x, () -> x.bundle(100, 99));
        Check.bad("bundle(111, 111)", x, () -> x.bundle(111, 111));
        Check.bad("bundle(89, 89)", x, () -> x.bundle(89, 89));
        int[][] limits = {{90, 110}, {90, 90}, {110, 110}, {95, 105}, {99, 100}};
        for (int i = 0; i < 5; i++) {
            Check.due("bundle " + i, x.bundle(limits[i][0], limits[i][1]), i);
            Check.due("bundles", x.count(1), i + 1);
        }
        for (int i = 0; i < 5; i++) {
            Check.due("low of " + i, x.about(i, 0), limits[i][0]);
            Check.due("high of " + i, x.about(i, 1), limits[i][1]);
        }
        Check.full("a 6th bundle", x, () -> x.bundle(90, 110));
        Check.bad("BAD ahead of FULL", x, () -> x.bundle(91, 90));
    }

    // ---- promise 5

    /** "none at first"; "what it said (NONE: none)". */
    private static void bandNoneAtFirst() {
        ThriceCounted x = new ThriceCounted();
        x.clerk(5);
        Check.bad("no bundle", x, () -> x.band(0, 100, 0));
        ThriceCounted y = new ThriceCounted();
        y.bundle(95, 105);
        Check.bad("no clerk", y, () -> y.band(0, 100, 0));
        y.clerk(5);
        Check.bad("band of bundle -1", y, () -> y.band(-1, 100, 0));
        Check.bad("band of bundle 1", y, () -> y.band(1, 100, 0));
        Check.bad("band of 89", y, () -> y.band(0, 89, 0));
        Check.bad("band of 111", y, () -> y.band(0, 111, 0));
        Check.bad("band by clerk -1", y, () -> y.band(0, 100, -1));
        Check.bad("band by clerk 1", y, () -> y.band(0, 100, 1));
        Check.due("no band yet", y.about(0, 2), -1);
        Check.due("nobody signed", y.about(0, 3), -1);
        Check.due("first band", y.band(0, 90, 0), ThriceCounted.NONE);
    }

    /** "the last one told counts". */
    private static void bandLastOneToldCounts() {
        ThriceCounted x = Check.readNew("bank;clerk 5;clerk 6;bundle 95 105;bundle 90 90;");
        Check.due("first band", x.band(0, 90, 0), -1);
        Check.due("second band", x.band(0, 110, 1), 90);
        Check.due("it says", x.about(0, 2), 110);
        Check.due("who signed it", x.about(0, 3), 1);
        Check.due("the same again", x.band(0, 110, 0), 110);
        Check.due("signed by another", x.about(0, 3), 0);
        x.band(0, 89, 1);
        Check.due("a refused one does not count", x.about(0, 2), 110);
        Check.due("nor who would have signed it", x.about(0, 3), 0);
        Check.due("the other bundle has none", x.band(1, 95, 0), -1);
    }

    /** A band may say what its bundle can not hold. */
    private static void bandOutsideItsBundle() {
        ThriceCounted x = Check.readNew("bank;clerk 5;bundle 99 100;");
        Check.due("98 of 99 .. 100", x.band(0, 98, 0), -1);
        Check.due("101 of 99 .. 100", x.band(0, 101, 0), 98);
        Check.due("it says", x.about(0, 2), 101);
    }

    // ---- promise 6

    /** "COUNTS 0 .. 7, as they come: of a BUNDLE, a WAY, a CLERK, the number TOLD (80 .. 120)"; "FULL: 8". */
    private static void countsAsTheyCome() {
        ThriceCounted x = new ThriceCounted();
        Check.bad("nobody, nothing", x, () -> x.tell(0, 0, 0, 100));
        x.clerk(5);
        Check.bad("no bundle", x, () -> x.tell(0, 0, 0, 100));
        x.bundle(95, 105);
        Check.bad("bundle 1", x, () -> x.tell(1, 0, 0, 100));
        Check.bad("bundle -1", x, () -> x.tell(-1, 0, 0, 100));
        Check.bad("way 6", x, () -> x.tell(0, 6, 0, 100));
        Check.bad("way -1", x, () -> x.tell(0, -1, 0, 100));
        Check.bad("clerk 1", x, () -> x.tell(0, 0, 1, 100));
        Check.bad("clerk -1", x, () -> x.tell(0, 0, -1, 100));
        Check.bad("told 79", x, () -> x.tell(0, 0, 0, 79));
        Check.bad("told 121", x, () -> x.tell(0, 0, 0, 121));
        for (int i = 0; i < 8; i++) {
            Check.due("tell", x.tell(0, i % 6, 0, i % 2 == 0 ? 80 : 120), i);
            Check.due("counts", x.count(2), i + 1);
        }
        Check.full("a 9th count", x, () -> x.tell(0, 0, 0, 100));
        Check.bad("BAD ahead of FULL", x, () -> x.tell(0, 0, 0, 79));
    }

    private static void ninthCountWhenOneIsGone() {
        ThriceCounted x = States.FULL.make();
        x.back(3);
        Check.due("room behind back", x.tell(0, 0, 0, 111), 7);
        Check.full("and no more", x, () -> x.tell(0, 0, 0, 100));
        x.undo();
        Check.due("room behind undo", x.tell(1, 1, 1, 112), 7);
        Check.due("its number told", x.of(7, 3), 112);
    }

    // ---- promise 7

    /** "A COUNT is taken back, those behind it have a number less: how many are left." */
    private static void backOfFirstMiddleAndLast() {
        int[][] left = {{91, 92}, {90, 92}, {90, 91}};
        for (int count = 0; count < 3; count++) {
            ThriceCounted x = Check.readNew(ONE + "count 0 0 0 90;count 0 1 0 91;count 0 2 0 92;");
            Check.due("back(" + count + ")", x.back(count), 2);
            for (int i = 0; i < 2; i++) {
                Check.due("back(" + count + "): told by " + i, x.of(i, 3), left[count][i]);
                Check.due("back(" + count + "): way of " + i, x.of(i, 1), left[count][i] - 90);
            }
            Check.bad("the last number is none any more", x, () -> x.of(2, 0));
            Check.due("back(1)", x.back(1), 1);
            Check.due("back(0)", x.back(0), 0);
        }
    }

    private static void backOfEight() {
        ThriceCounted x = Check.readNew(ONE);
        for (int i = 0; i < 8; i++) {
            x.tell(0, i % 6, 0, 100 + i);
        }
        Check.bad("back(8)", x, () -> x.back(8));
        Check.due("back(7)", x.back(7), 7);
        Check.due("the 7th stays", x.of(6, 3), 106);
        Check.due("back(0)", x.back(0), 6);
        for (int i = 0; i < 6; i++) {
            Check.due("told by " + i, x.of(i, 3), 101 + i);
            Check.due("way of " + i, x.of(i, 1), (i + 1) % 6);
        }
    }

    private static void backOfNone() {
        ThriceCounted x = Check.readNew(ONE);
        Check.bad("back(0) of none", x, () -> x.back(0));
        Check.bad("back(-1)", x, () -> x.back(-1));
        x.tell(0, 0, 0, 95);
        Check.bad("back(1) of one", x, () -> x.back(1));
        Check.due("back(0) of one", x.back(0), 0);
        Check.bad("back(0) of none left", x, () -> x.back(0));
        Check.due("the refused ones are not undone", x.count(4), 2);
    }

    // ---- promise 8

    /** "UNDO: COUNTS as ahead of the last one told, taken back". */
    private static void undoOfTellAndBack() {
        ThriceCounted x = Check.readNew(ONE + "count 0 0 0 90;count 0 1 0 91;");
        x.tell(0, 2, 0, 92);
        x.back(0);
        Check.due("undo of back", x.undo(), 3);
        Check.due("its count is there again", x.of(0, 3), 90);
        Check.due("and those behind it", x.of(1, 3), 91);
        Check.due("with their ways", x.of(2, 1), 2);
        Check.due("undo of tell", x.undo(), 2);
        Check.due("the last one", x.of(1, 3), 91);
        Check.no("what is read is not undone", x, x::undo);
    }

    private static void undoOfBackOfEight() {
        for (int count = 0; count < 8; count++) {
            ThriceCounted x = Check.readNew("bank;clerk 1;clerk 1;bundle 90 99;bundle 90 99;");
            for (int i = 0; i < 8; i++) {
                x.tell(i % 2, i % 6, i / 4, 100 + i);
            }
            x.back(count);
            Check.due("undo of back(" + count + ")", x.undo(), 8);
            for (int i = 0; i < 8; i++) {
                Check.due("bundle of " + i, x.of(i, 0), i % 2);
                Check.due("way of " + i, x.of(i, 1), i % 6);
                Check.due("clerk of " + i, x.of(i, 2), i / 4);
                Check.due("told by " + i, x.of(i, 3), 100 + i);
            }
        }
    }

    private static void undoOfCountsAlone() {
        ThriceCounted x = Check.readNew(ONE);
        x.tell(0, 2, 0, 92);
        x.clerk(9);
        x.bundle(95, 95);
        x.band(0, 95, 1);
        x.cause(1, 2, 3, 4);
        x.type(33);
        Check.due("one may be undone", x.count(4), 1);
        Check.due("undo", x.undo(), 0);
        Check.due("a clerk is not undone", x.count(0), 2);
        Check.due("a bundle is not undone", x.count(1), 2);
        Check.due("a band is not undone", x.about(0, 2), 95);
        Check.due("a cause is not undone", x.count(3), 1);
        Check.due("a byte is not undone", x.count(5), ONE.length() + 1);
        Check.no("none of them may be", x, x::undo);
    }

    /** "NO: none may be." */
    private static void undoNoneMayBe() {
        ThriceCounted x = Check.readNew(ONE);
        Check.no("nothing told yet", x, x::undo);
        x.tell(9, 0, 0, 90);
        x.tell(0, 0, 0, 121);
        x.back(0);
        Check.due("a refused call is not undone", x.count(4), 0);
        Check.no("so none may be", x, x::undo);
        x.tell(0, 0, 0, 90);
        x.undo();
        Check.no("undone already", x, x::undo);
    }

    /** "(8 at most)". */
    private static void undoKeepsEightAtMost() {
        ThriceCounted x = Check.readNew(ONE);
        for (int i = 0; i < 6; i++) {
            x.tell(0, 0, 0, 90 + i);
        }
        x.back(0);
        Check.due("seven", x.count(4), 7);
        x.back(0);
        Check.due("eight", x.count(4), 8);
        x.back(0);
        Check.due("eight at most", x.count(4), 8);
        x.back(0);
        Check.due("eight at most", x.count(4), 8);
        int[] many = {3, 4, 5, 6, 5, 4, 3, 2};
        for (int i = 0; i < 8; i++) {
            Check.due("undo " + i, x.undo(), many[i]);
            Check.due("undo " + i + " left", x.count(4), 7 - i);
        }
        Check.due("the first ones stay", x.of(1, 3), 91);
        Check.no("a 9th is gone", x, x::undo);
    }

    private static void undoAndThenOn() {
        ThriceCounted x = Check.readNew(ONE);
        x.tell(0, 0, 0, 91);
        x.tell(0, 0, 0, 92);
        x.undo();
        x.tell(0, 0, 0, 93);
        Check.due("two may be undone", x.count(4), 2);
        Check.due("the other is told instead", x.of(1, 3), 93);
        Check.due("undo", x.undo(), 1);
        Check.due("undo", x.undo(), 0);
        Check.no("no more", x, x::undo);
    }

    private static void undoIsNotUndone() {
        ThriceCounted x = Check.readNew(ONE);
        x.tell(0, 0, 0, 91);
        x.tell(0, 0, 0, 92);
        x.back(0);
        Check.due("the counts of three calls ago", x.undo() * 100 + x.undo() * 10 + x.undo(), 210);
    }

    // ---- promises 9 and 10

    /** "A byte (0 .. 127) comes behind THE TEXT: how many it has." */
    private static void bytesOneAfterAnother() {
        ThriceCounted x = new ThriceCounted();
        Check.bad("type(-1)", x, () -> x.type(-1));
        Check.bad("type(128)", x, () -> x.type(128));
        Check.due("type(0)", x.type(0), 1);
        Check.due("type(127)", x.type(127), 2);
        Check.due("bytes", x.count(5), 2);
    }

    /** "(150 bytes at most)"; "FULL." */
    private static void textOf150() {
        ThriceCounted x = new ThriceCounted();
        String text = "bank;clerk 5;";
        for (int i = 0; i < text.length(); i++) {
            x.type(text.charAt(i));
        }
        for (int i = text.length() + 1; i <= 150; i++) {
            Check.due("type", x.type(' '), i);
        }
        Check.full("a 151st byte", x, () -> x.type(0));
        Check.bad("BAD ahead of FULL", x, () -> x.type(128));
        Check.due("bytes", x.count(5), 150);
        Check.due("it is read as if the 151st had not come", x.read(), 2);
    }

    /** "THE TEXT is empty: how many it had." */
    private static void clearOfEmptyAndFull() {
        ThriceCounted x = new ThriceCounted();
        Check.due("clear of none", x.clear(), 0);
        for (int i = 1; i <= 150; i++) {
            x.type(i % 128);
        }
        Check.due("clear of all", x.clear(), 150);
        Check.due("bytes", x.count(5), 0);
        Check.unchanged("an empty one is read", x, -10, x::read);
        Check.due("clear again", x.clear(), 0);
        x.type(' ');
        x.clear();
        Check.unchanged("nothing of what was typed is left", x, -10, x::read);
        Check.due("type anew", x.type(0), 1);
        Check.due("clear of one", x.clear(), 1);
    }
}
