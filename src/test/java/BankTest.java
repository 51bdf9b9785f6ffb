/** Promises 1 to 11: a new object, bank, clerk, bundle, band, tell, back, undo, type, clear, read. */
public final class BankTest {
    public static void main(String[] args) {
        newObject();
        bank();
        clerk();
        bundle();
        band();
        tell();
        back();
        undo();
        undoKeepsEightAtMost();
        typeAndClear();
        read();
        readTakesThePlace();
        faults();
        Check.finish("BankTest");
    }

    private static void newObject() {
        ThriceCounted x = new ThriceCounted();
        for (int what = 0; what <= 5; what++) {
            Check.due("new: count " + what, x.count(what), 0);
        }
        for (int what = 0; what <= 2; what++) {
            Check.due("new: status " + what, x.status(what), 0);
        }
        Check.fraction("new", x, 0, 1);
        Check.no("new: from 0", x, () -> x.from(0));
        Check.no("new: from 1", x, () -> x.from(1));
    }

    private static void bank() {
        ThriceCounted x = Check.readNew("bank;clerk 3;bundle 90 99;bundle 95 95;band 0 91 0;count 0 0 0 91;");
        x.tell(0, 1, 0, 92);
        x.cause(1, 2, 3, 4);
        x.likely(0, 91);
        x.image(0);
        x.image(1);
        x.clerk(-1);
        x.from(2);
        Check.due("bank", x.bank(), 2);
        Check.due("bank: as new", x.digest(), new ThriceCounted().digest());
        for (int what = 0; what <= 2; what++) {
            Check.due("bank: status " + what, x.status(what), 0);
        }
        Check.no("bank: no image", x, () -> x.from(0));
        Check.no("bank: no image", x, () -> x.from(1));
        Check.no("bank: nothing to undo", x, x::undo);
        Check.due("bank again", x.bank(), 0);
    }

    private static void clerk() {
        ThriceCounted x = new ThriceCounted();
        Check.bad("clerk(-1)", x, () -> x.clerk(-1));
        Check.bad("clerk(11)", x, () -> x.clerk(11));
        for (int i = 0; i < 5; i++) {
            Check.due("clerk", x.clerk(i % 2 == 0 ? 0 : 10), i);
        }
        Check.due("clerks", x.count(0), 5);
        Check.full("a 6th clerk", x, () -> x.clerk(5));
        Check.bad("BAD ahead of FULL", x, () -> x.clerk(11));
    }

    private static void bundle() {
        ThriceCounted x = new ThriceCounted();
        Check.bad("bundle(89, 100)", x, () -> x.bundle(89, 100));
        Check.bad("bundle(90, 111)", x, () -> x.bundle(90, 111));
        Check.bad("bundle(100, 99)", x, () -> x.bundle(100, 99));
        Check.bad("bundle(111, 111)", x, () -> x.bundle(111, 111));
        Check.due("bundle(90, 110)", x.bundle(90, 110), 0);
        Check.due("bundle(90, 90)", x.bundle(90, 90), 1);
        Check.due("bundle(110, 110)", x.bundle(110, 110), 2);
        Check.due("bundle(95, 105)", x.bundle(95, 105), 3);
        Check.due("bundle(99, 100)", x.bundle(99, 100), 4);
        Check.due("its low", x.about(3, 0), 95);
        Check.due("its high", x.about(3, 1), 105);
        Check.full("a 6th bundle", x, () -> x.bundle(90, 110));
        Check.bad("BAD ahead of FULL", x, () -> x.bundle(91, 90));
    }

    private static void band() {
        ThriceCounted x = new ThriceCounted();
        x.clerk(5);
        x.clerk(6);
        Check.bad("no bundle", x, () -> x.band(0, 100, 0));
        x.bundle(95, 105);
        Check.bad("band of bundle -1", x, () -> x.band(-1, 100, 0));
        Check.bad("band of bundle 1", x, () -> x.band(1, 100, 0));
        Check.bad("band of 89", x, () -> x.band(0, 89, 0));
        Check.bad("band of 111", x, () -> x.band(0, 111, 0));
        Check.bad("band by clerk -1", x, () -> x.band(0, 100, -1));
        Check.bad("band by clerk 2", x, () -> x.band(0, 100, 2));
        Check.due("first band", x.band(0, 90, 0), ThriceCounted.NONE);
        Check.due("second band", x.band(0, 110, 1), 90);
        Check.due("the last one counts", x.about(0, 2), 110);
        Check.due("who signed it", x.about(0, 3), 1);
    }

    private static void tell() {
        ThriceCounted x = new ThriceCounted();
        Check.bad("nobody, nothing", x, () -> x.tell(0, 0, 0, 100));
        x.clerk(5);
        x.bundle(95, 105);
        Check.bad("bundle 1", x, () -> x.tell(1, 0, 0, 100));
        Check.bad("bundle -1", x, () -> x.tell(-1, 0, 0, 100));
        Check.bad("way 6", x, () -> x.tell(0, 6, 0, 100));
        Check.bad("way -1", x, () -> x.tell(0, -1, 0, 100));
        Check.bad("clerk 1", x, () -> x.tell(0, 0, 1, 100));
        Check.bad("clerk -1", x, () -> x.tell(0, 0, -1, 100));
        Check.bad("told 79", x, () -> x.tell(0, 0, 0, 79));
        Check.bad("told 121", x, () -> x.tell(0, 0, 0, 121));
        for (int i = 0; i < 8; i++) {
            Check.due("tell", x.tell(0, i % 6, 0, i % 2 == 0 ? 80 : 120), i);
        }
        Check.full("a 9th count", x, () -> x.tell(0, 0, 0, 100));
        Check.bad("BAD ahead of FULL", x, () -> x.tell(0, 0, 0, 79));
        Check.due("counts", x.count(2), 8);
    }

    private static void back() {
        ThriceCounted x = Check.readNew("bank;clerk 1;bundle 90 99;count 0 0 0 90;count 0 1 0 91;count 0 2 0 92;");
        Check.bad("back(3)", x, () -> x.back(3));
        Check.bad("back(-1)", x, () -> x.back(-1));
        Check.due("back(1)", x.back(1), 2);
        Check.due("the first stays", x.of(0, 3), 90);
        Check.due("those behind it have a number less", x.of(1, 3), 92);
        Check.due("with its way", x.of(1, 1), 2);
        Check.due("back(1)", x.back(1), 1);
        Check.due("back(0)", x.back(0), 0);
        Check.bad("back(0) of none", x, () -> x.back(0));
        Check.due("three may be undone", x.count(4), 3);
    }

    private static void undo() {
        ThriceCounted x = Check.readNew("bank;clerk 1;bundle 90 99;count 0 0 0 90;count 0 1 0 91;");
        Check.no("what is read is not undone", x, x::undo);
        x.tell(0, 2, 0, 92);
        x.back(0);
        x.clerk(9);
        x.band(0, 95, 1);
        Check.due("undo of back", x.undo(), 3);
        Check.due("its count is there again", x.of(0, 3), 90);
        Check.due("and those behind it", x.of(2, 3), 92);
        Check.due("a band is not undone", x.about(0, 2), 95);
        Check.due("a clerk is not undone", x.count(0), 2);
        Check.due("undo of tell", x.undo(), 2);
        Check.due("the last one", x.of(1, 3), 91);
        Check.no("none may be", x, x::undo);
        x.tell(9, 0, 0, 90);
        x.back(9);
        Check.due("a refused call is not undone", x.count(4), 0);
    }

    private static void undoKeepsEightAtMost() {
        ThriceCounted x = Check.readNew("bank;clerk 1;bundle 90 99;");
        for (int i = 0; i < 6; i++) {
            x.tell(0, 0, 0, 90 + i);
        }
        for (int i = 0; i < 4; i++) {
            x.back(0);
        }
        Check.due("eight at most", x.count(4), 8);
        int[] many = {3, 4, 5, 6, 5, 4, 3, 2};
        for (int i = 0; i < 8; i++) {
            Check.due("undo " + i, x.undo(), many[i]);
            Check.due("undo " + i + " left", x.count(4), 7 - i);
        }
        Check.due("the first ones stay", x.of(1, 3), 91);
        Check.no("a 9th is gone", x, x::undo);
    }

    private static void typeAndClear() {
        ThriceCounted x = new ThriceCounted();
        Check.bad("type(-1)", x, () -> x.type(-1));
        Check.bad("type(128)", x, () -> x.type(128));
        for (int i = 1; i <= 150; i++) {
            Check.due("type", x.type(i % 128), i);
        }
        Check.full("a 151st byte", x, () -> x.type(0));
        Check.bad("BAD ahead of FULL", x, () -> x.type(128));
        Check.due("bytes", x.count(5), 150);
        Check.due("clear", x.clear(), 150);
        Check.due("bytes", x.count(5), 0);
        Check.due("clear again", x.clear(), 0);
        Check.due("type anew", x.type(0), 1);
    }

    private static void read() {
        ThriceCounted x = new ThriceCounted();
        Check.due("bank alone", Check.read(x, "bank;"), 1);
        Check.due("blanks", Check.read(x, "  bank  ;  clerk   10 ;bundle 090 110;  "), 3);
        Check.due("no blank is needed beside a number", Check.read(x, "bank;clerk7;bundle90 110;band0 100 0;"), 4);
        Check.due("its band", x.about(0, 2), 100);
        Check.due("limits", Check.read(x, "bank;clerk 0;clerk 10;bundle 90 90;bundle 110 110;band 1 90 1;band 1 110 0;"
                + "count 1 5 1 120;count 0 0 0 80;"), 9);
        Check.due("the last band counts", x.about(1, 2), 110);
        Check.due("who signed", x.about(1, 3), 0);
        Check.due("bundle of a count", x.of(0, 0), 1);
        Check.due("way of a count", x.of(0, 1), 5);
        Check.due("clerk of a count", x.of(0, 2), 1);
        Check.due("told of a count", x.of(0, 3), 120);
        Check.due("all full", Check.read(x, "bank;clerk 1;clerk 1;clerk 1;clerk 1;clerk 1;bundle 99 99;bundle 99 99;"
                + "bundle 99 99;bundle 99 99;bundle 99 99;"), 11);
        Check.due("eight counts", Check.read(x, "bank;clerk 1;bundle 99 99;" + "count 0 0 0 99;".repeat(8)), 11);
        Check.due("counts", x.count(2), 8);
    }

    private static void readTakesThePlace() {
        ThriceCounted x = Check.readNew("bank;clerk 1;bundle 90 99;bundle 90 99;");
        x.tell(0, 0, 0, 90);
        x.cause(1, 1, 1, 1);
        x.likely(0, 90);
        long above = x.part(0);
        long below = x.part(1);
        x.image(1);
        x.clerk(-1);
        Check.typeText(x, "bank;clerk 2;");
        Check.due("read", x.read(), 2);
        Check.due("clerks", x.count(0), 1);
        Check.due("bundles", x.count(1), 0);
        Check.due("counts", x.count(2), 0);
        Check.due("causes", x.count(3), 0);
        Check.due("nothing to undo", x.count(4), 0);
        Check.due("the text stays", x.count(5), 13);
        Check.fraction("the fraction stays", x, above, below);
        Check.due("status stays", x.status(0), 1);
        Check.due("images stay", x.from(1), 1);
        Check.due("bundles of the image", x.count(1), 2);
        Check.due("undo of the image", x.undo(), 0);
    }

    private static void fault(String text, int place) {
        ThriceCounted x = Check.readNew("bank;clerk 4;bundle 90 92;count 0 0 0 91;");
        x.tell(0, 1, 0, 92);
        x.cause(3, 3, 3, 3);
        Check.typeText(x, text);
        Check.unchanged("read of '" + text + "'", x, -10 - place, x::read);
    }

    private static void faults() {
        fault("", 0);
        fault("   ", 3);
        fault("bank", 4);
        fault("bank ", 5);
        fault("ban", 0);
        fault("banks;", 0);
        fault("bankz;", 0);
        fault("banka;", 0);
        fault("sank;", 0);
        fault("bans;", 0);
        fault("bank{;", 4);
        fault("bank`;", 4);
        fault("bank;clerk 1:;", 12);
        fault("bank;clerk 1/;", 12);
        fault("bank;flerk 1;", 5);
        fault("bank;count ;", 11);
        fault("bank;band ;", 10);
        fault("bank;bundle ;", 12);
        fault("bank;bundle 90 ;", 15);
        fault("bank;clerk 1;bundle 90 99;band 0;", 32);
        fault("bank;clerk 1;bundle 90 99;band 0 90;", 35);
        fault("bank;clerk 1;bundle 90 99;band 0 111 0;", 33);
        fault("bank;clerk 1;bundle 90 99;count 0;", 33);
        fault("bank;clerk 1;bundle 90 99;count 0 0;", 35);
        fault("bank;clerk 1;bundle 90 99;count 0 0 0;", 37);
        fault("bank;clerk 1;bundle 90 99;count 9 0 0 90;", 32);
        fault("bank;clerk 1;bundle 90 99;count 90 0 0 90;", 32);
        fault(" clerk 3;", 1);
        fault(";bank;", 0);
        fault("1 bank;", 0);
        fault("!", 0);
        fault("bank!;", 4);
        fault("bank;;", 5);
        fault("bank;bank;", 5);
        fault("bank;clerk 1; bank;", 14);
        fault("bank 1;", 5);
        fault("bank;teller 1;", 5);
        fault("bank;Clerk 1;", 5);
        fault("bank;cLerk 1;", 5);
        fault("bank;clerk", 10);
        fault("bank;clerk ", 11);
        fault("bank;clerk 1", 12);
        fault("bank;clerk 11;", 11);
        fault("bank;clerk ;", 11);
        fault("bank;clerk x;", 11);
        fault("bank;clerk 1 1;", 13);
        fault("bank;clerk 1x;", 12);
        fault("bank;clerk 0001;", 11);
        fault("bank;clerk -1;", 11);
        fault("bank;clerk\t1;", 10);
        fault("bank;bundle 89 99;", 12);
        fault("bank;bundle 90 111;", 15);
        fault("bank;bundle 99 98;", 15);
        fault("bank;bundle 99;", 14);
        fault("bank;bundle 99", 14);
        fault("bank;bundle 0099 99;", 12);
        fault("bank;bundle 99 9999;", 15);
        fault("bank;clerk 1;band 0 99 0;", 18);
        fault("bank;bundle 90 99;band 0 99 0;", 28);
        fault("bank;clerk 1;bundle 90 99;band 0 89 0;", 33);
        fault("bank;clerk 1;bundle 90 99;band 0 99;", 35);
        fault("bank;clerk 1;bundle 90 99;band 1 99 0;", 31);
        fault("bank;clerk 1;bundle 90 99;count 1 0 0 90;", 32);
        fault("bank;clerk 1;bundle 90 99;count 0 6 0 90;", 34);
        fault("bank;clerk 1;bundle 90 99;count 0 0 1 90;", 36);
        fault("bank;clerk 1;bundle 90 99;count 0 0 0 79;", 38);
        fault("bank;clerk 1;bundle 90 99;count 0 0 0 121;", 38);
        fault("bank;clerk 1;bundle 90 99;count 0 0 0 90 1;", 41);
        fault("bank;clerk 1;bundle 90 99;count 0 0 0 90", 40);
        fault("bank;" + "clerk 1;".repeat(5) + "clerk 1;", 45);
        fault("bank;" + "clerk 1;".repeat(5) + "clerk", 45);
        fault("bank;" + "bundle 99 99;".repeat(5) + " bundle 1 1;", 71);
        fault("bank;clerk 1;bundle 9 99;" + "count 0 0 0 99;", 20);
        fault("bank;clerk1;bundle99 99;" + "count0 0 0 99;".repeat(8) + "count 0", 136);
        fault("bank;clerk 12345678901234567890;", 11);
    }
}
