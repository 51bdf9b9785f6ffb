/** Promises 31 to 36: part, image, from, status, count, digest; and the constants. */
public final class StateTest {
    public static void main(String[] args) {
        constants();
        partAtFirst();
        partOfTheLastCallThatSetsIt();
        partOfARefusedCall();
        partRefused();
        imageOfNothing();
        imageOfAll();
        imageStaysAsKept();
        imageKeptAgain();
        imageLeavesOutTextFractionStatusImages();
        imageKeepsWhatMayBeUndone();
        imageRefused();
        statusOfEachReason();
        statusOfAnotherWhat();
        statusOfWhatIsNoRefusal();
        countOfEach();
        countRefused();
        digestOfNothing();
        digestOfEachPart();
        digestOfAllFull();
        Check.finish("StateTest");
    }

    private static void constants() {
        Check.due("NONE", ThriceCounted.NONE, -1);
        Check.due("BAD", ThriceCounted.BAD, -2);
        Check.due("NO", ThriceCounted.NO, -3);
        Check.due("FULL", ThriceCounted.FULL, -4);
    }

    // ---- promise 31

    /** "THE FRACTION is 0 by 1 at first". */
    private static void partAtFirst() {
        ThriceCounted x = new ThriceCounted();
        Check.unchanged("above", x, 0, () -> x.part(0));
        Check.unchanged("below", x, 1, () -> x.part(1));
    }

    private static void partOfTheLastCallThatSetsIt() {
        ThriceCounted x = Check.readNew("bank;clerk 5;bundle 90 109;bundle 90 93;count 1 0 0 90;");
        x.likely(0, 100);
        Check.fraction("likely", x, 1, 20);
        x.wrong(0);
        Check.fraction("wrong", x, 2, 19);
        x.plan(0, 0);
        Check.fraction("plan", x, 1, 20);
        x.cause(7, 1, 30, 10);
        x.look(7, 0);
        Check.fraction("look", x, 30, 1);
        x.enough(0, 0, 9);
        x.truly(0, 0);
        x.believe();
        x.sum();
        x.open();
        x.writeOff(7, 3);
        Check.fraction("of no other call", x, 30, 1);
        x.likely(1, 110);
        Check.fraction("0 is 0 by 1", x, 0, 1);
    }

    private static void partOfARefusedCall() {
        ThriceCounted x = Check.readNew("bank;clerk 5;bundle 90 109;bundle 99 99;count 1 0 0 80;");
        x.likely(0, 100);
        x.likely(1, 99);
        x.likely(0, 111);
        x.wrong(0);
        x.wrong(1);
        x.plan(1, 30);
        x.plan(0, 31);
        x.look(0, 0);
        x.look(199, 0);
        Check.fraction("as it was", x, 1, 20);
    }

    private static void partRefused() {
        ThriceCounted x = new ThriceCounted();
        Check.bad("part(-1)", x, () -> x.part(-1));
        Check.bad("part(2)", x, () -> x.part(2));
    }

    // ---- promises 32 and 33

    private static void imageOfNothing() {
        ThriceCounted x = new ThriceCounted();
        Check.unchanged("image(0)", x, 1, () -> x.image(0));
        x.clerk(1);
        x.bundle(90, 99);
        x.tell(0, 0, 0, 95);
        x.cause(1, 1, 1, 1);
        Check.due("from(0)", x.from(0), 1);
        Check.due("nobody, nothing", x.digest(), new ThriceCounted().digest());
        Check.no("nothing to undo", x, x::undo);
    }

    /** "IMAGES 0, 1 keep all": each its own, with the full state too. */
    private static void imageOfAll() {
        ThriceCounted x = States.FULL.make();
        long full = x.digest();
        x.image(0);
        x.forget();
        x.back(0);
        x.band(0, 90, 0);
        long later = x.digest();
        x.image(1);
        Check.typeText(x, "bank;");
        x.read();
        x.from(0);
        Check.due("bands of the first", x.about(0, 2), 100);
        Check.due("causes of the first", x.count(3), 6);
        Check.due("undos of the first", x.count(4), 8);
        x.from(1);
        Check.due("bands of the second", x.about(0, 2), 90);
        Check.due("causes of the second", x.count(3), 0);
        Check.due("counts of the second", x.count(2), 7);
        ThriceCounted y = States.FULL.make();
        y.image(1);
        int told = y.of(7, 3);
        y.forget();
        y.undo();
        y.from(1);
        Check.due("all as kept", y.digest(), full);
        y.back(7);
        y.undo();
        Check.due("the last count too", y.of(7, 3), told);
        Check.due("two images of two states", full == later ? 1 : 0, 0);
    }

    private static void imageStaysAsKept() {
        ThriceCounted x = Check.readNew("bank;clerk 1;clerk 2;bundle 90 99;band 0 95 1;count 0 0 0 95;");
        x.tell(0, 4, 1, 96);
        x.back(0);
        x.cause(1, 2, 3, 4);
        x.image(0);
        long kept = x.digest();
        for (int time = 0; time < 3; time++) {
            x.undo();
            x.undo();
            x.clerk(9);
            x.bundle(91, 91);
            x.band(0, 99, 2);
            x.tell(1, 5, 0, 120);
            x.forget();
            Check.due("from(0)", x.from(0), 1);
            Check.due("as it was kept, time " + time, x.digest(), kept);
        }
        Check.due("undo goes on, of back", x.undo(), 2);
        Check.due("its counts", x.of(0, 3), 95);
        Check.due("undo goes on, of tell", x.undo(), 1);
        Check.due("the count that was read", x.of(0, 3), 95);
        Check.no("no more to undo", x, x::undo);
    }

    private static void imageKeptAgain() {
        ThriceCounted x = new ThriceCounted();
        x.clerk(1);
        x.image(0);
        x.clerk(2);
        Check.due("kept again", x.image(0), 1);
        x.clerk(3);
        x.from(0);
        Check.due("the later one", x.count(0), 2);
        Check.no("the other is none", x, () -> x.from(1));
    }

    /** "keep all but them, THE TEXT, THE FRACTION and STATUS". */
    private static void imageLeavesOutTextFractionStatusImages() {
        ThriceCounted x = Check.readNew("bank;clerk 1;bundle 90 99;");
        x.likely(0, 95);
        x.clerk(-1);
        x.image(0);
        x.bundle(90, 93);
        x.image(1);
        x.clear();
        x.type('b');
        x.likely(1, 90);
        x.clerk(11);
        x.undo();
        x.from(0);
        Check.due("the text is not the image's", x.count(5), 1);
        Check.fraction("the fraction is not the image's", x, 1, 4);
        Check.due("BAD is not the image's", x.status(0), 2);
        Check.due("NO is not the image's", x.status(1), 1);
        Check.due("images are not the image's", x.from(1), 1);
        Check.due("bundles of it", x.count(1), 2);
    }

    /** "what may be undone they keep; it goes on from one". */
    private static void imageKeepsWhatMayBeUndone() {
        ThriceCounted x = Check.readNew("bank;clerk 1;bundle 90 99;count 0 0 0 95;");
        x.tell(0, 1, 0, 96);
        x.tell(0, 2, 0, 97);
        x.image(1);
        Check.read(x, "bank;clerk 1;bundle 90 99;");
        x.tell(0, 5, 0, 120);
        x.tell(0, 5, 0, 120);
        x.tell(0, 5, 0, 120);
        x.from(1);
        Check.due("two may be undone", x.count(4), 2);
        x.back(0);
        Check.due("it goes on: three", x.count(4), 3);
        Check.due("undo", x.undo(), 3);
        Check.due("undo", x.undo(), 2);
        Check.due("what was told", x.of(1, 3), 96);
        Check.due("undo", x.undo(), 1);
        Check.due("what was read", x.of(0, 3), 95);
        Check.no("from itself is not undone", x, x::undo);
    }

    private static void imageRefused() {
        ThriceCounted x = new ThriceCounted();
        Check.bad("image(-1)", x, () -> x.image(-1));
        Check.bad("image(2)", x, () -> x.image(2));
        Check.bad("from(-1)", x, () -> x.from(-1));
        Check.bad("from(2)", x, () -> x.from(2));
        Check.no("from(0) of none", x, () -> x.from(0));
        Check.no("from(1) of none", x, () -> x.from(1));
        x.image(1);
        Check.no("from(0) where 1 is kept", x, () -> x.from(0));
        Check.due("from(1)", x.from(1), 1);
    }

    // ---- promise 34

    private static void statusOfEachReason() {
        ThriceCounted x = new ThriceCounted();
        x.clerk(-1);
        x.way(6, 0);
        x.about(0, 0);
        x.look(0, -1);
        x.part(2);
        x.status(3);
        x.undo();
        x.from(1);
        x.undo();
        for (int i = 0; i < 6; i++) {
            x.clerk(1);
        }
        Check.unchanged("BAD, by whichever answer", x, 6, () -> x.status(0));
        Check.unchanged("NO", x, 3, () -> x.status(1));
        Check.unchanged("FULL", x, 1, () -> x.status(2));
    }

    /** "-1: another what (counts as BAD)". */
    private static void statusOfAnotherWhat() {
        ThriceCounted x = new ThriceCounted();
        for (int what : new int[] {-1, 3, 4, Integer.MIN_VALUE, Integer.MAX_VALUE}) {
            Check.refused("status(" + what + ")", x, Check.BAD, -1, () -> x.status(what));
        }
        Check.due("five of them", x.status(0), 5);
    }

    private static void statusOfWhatIsNoRefusal() {
        ThriceCounted x = new ThriceCounted();
        x.read();
        x.look(0, 0);
        x.believe();
        x.sum();
        x.why(0, 1);
        x.drawn(0, 100, 0, 0, 1);
        Check.due("a fault, -5 and NONE are no refusals", x.status(0) + x.status(1) + x.status(2), 0);
    }

    // ---- promise 35

    private static void countOfEach() {
        ThriceCounted x = Check.readNew("bank;clerk 1;bundle 90 99;bundle 90 99;count 0 0 0 95;count 0 0 0 95;");
        x.tell(0, 0, 0, 96);
        for (int i = 0; i < 5; i++) {
            x.cause(0, 1, 0, 0);
        }
        int[] due = {1, 2, 3, 5, 1, 69};
        int[] full = {5, 5, 8, 6, 8, 150};
        ThriceCounted y = States.FULL.make();
        for (int what = 0; what <= 5; what++) {
            Check.due("count(" + what + ")", x.count(what), due[what]);
            Check.due("count(" + what + ") of full", y.count(what), full[what]);
        }
    }

    private static void countRefused() {
        ThriceCounted x = new ThriceCounted();
        Check.bad("count(-1)", x, () -> x.count(-1));
        Check.bad("count(6)", x, () -> x.count(6));
    }

    // ---- promise 36

    private static long mix(long... values) {
        long h = 937;
        for (long v : values) {
            h = 31 * h + v;
        }
        return h;
    }

    private static void digestOfNothing() {
        ThriceCounted x = new ThriceCounted();
        Check.due("digest at first", x.digest(), mix(0, 0, 0, 0, 0, 0, 0, 1));
    }

    private static void digestOfEachPart() {
        ThriceCounted x = new ThriceCounted();
        x.clerk(4);
        Check.due("a clerk", x.digest(), mix(1, 0, 0, 0, 0, 0, 4, 0, 1));
        x.clerk(10);
        x.bundle(90, 99);
        Check.due("a bundle without a band", x.digest(), mix(2, 1, 0, 0, 0, 0, 4, 10, 90, 99, -1, -1, 0, 1));
        x.bundle(98, 102);
        x.band(1, 100, 1);
        x.tell(1, 5, 0, 120);
        x.tell(0, 2, 1, 95);
        x.cause(-99, 20, 30, 10);
        x.type(7);
        x.likely(0, 95);
        // Told 95 by weight: 8 of 20 for 95, all of them being 90 .. 99.
        Check.due("all", x.digest(), mix(2, 2, 2, 1, 2, 1, 4, 10, 90, 99, -1, -1, 98, 102, 100, 1, 1, 5, 0, 120,
                0, 2, 1, 95, -99, 20, 30, 10, 2, 5));
        x.back(0);
        Check.due("what is left", x.digest(), mix(2, 2, 1, 1, 3, 1, 4, 10, 90, 99, -1, -1, 98, 102, 100, 1,
                0, 2, 1, 95, -99, 20, 30, 10, 2, 5));
        x.clerk(-1);
        x.image(0);
        Check.due("STATUS and IMAGES are not in it", x.digest(), mix(2, 2, 1, 1, 3, 1, 4, 10, 90, 99, -1, -1, 98, 102,
                100, 1, 0, 2, 1, 95, -99, 20, 30, 10, 2, 5));
        x.forget();
        x.clear();
        Check.due("nothing of what is forgotten", x.digest(), mix(2, 2, 1, 0, 3, 0, 4, 10, 90, 99, -1, -1, 98, 102,
                100, 1, 0, 2, 1, 95, 2, 5));
    }

    /** Far beyond what a long holds, with Java's wrap-around. */
    private static void digestOfAllFull() {
        ThriceCounted x = States.FULL.make();
        int[] trust = {9, 5, 0, 5, 10};
        long h = mix(5, 5, 8, 6, 8, 150);
        for (int one : trust) {
            h = 31 * h + one;
        }
        for (int bundle = 0; bundle < 5; bundle++) {
            for (int what = 0; what < 4; what++) {
                h = 31 * h + x.about(bundle, what);
            }
        }
        for (int count = 0; count < 8; count++) {
            for (int what = 0; what < 4; what++) {
                h = 31 * h + x.of(count, what);
            }
        }
        for (int i = 0; i < 6; i++) {
            for (int one : new int[] {i % 2 == 0 ? 10 : -10, 3 + i, 6 * i, 10 - i}) {
                h = 31 * h + one;
            }
        }
        h = 31 * h + x.part(0);
        h = 31 * h + x.part(1);
        Check.due("digest of full", x.digest(), h);
    }
}
