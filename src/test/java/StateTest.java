/** Promises 31 to 36: part, image, from, status, count, digest. */
public final class StateTest {
    public static void main(String[] args) {
        constants();
        part();
        imageAndFrom();
        imageKeepsWhatMayBeUndone();
        status();
        count();
        digest();
        Check.finish("StateTest");
    }

    private static void constants() {
        Check.due("NONE", ThriceCounted.NONE, -1);
        Check.due("BAD", ThriceCounted.BAD, -2);
        Check.due("NO", ThriceCounted.NO, -3);
        Check.due("FULL", ThriceCounted.FULL, -4);
    }

    private static void part() {
        ThriceCounted x = new ThriceCounted();
        Check.fraction("at first", x, 0, 1);
        x.bundle(90, 109);
        x.likely(0, 100);
        Check.fraction("likely", x, 1, 20);
        x.bundle(90, 93);
        x.plan(1, 0);
        Check.fraction("plan", x, 1, 4);
        Check.bad("part(-1)", x, () -> x.part(-1));
        Check.bad("part(2)", x, () -> x.part(2));
    }

    private static void imageAndFrom() {
        ThriceCounted x = Check.readNew("bank;clerk 1;clerk 2;bundle 90 99;band 0 95 1;count 0 0 0 95;");
        x.tell(0, 4, 1, 96);
        x.back(0);
        x.cause(1, 2, 3, 4);
        Check.bad("image(-1)", x, () -> x.image(-1));
        Check.bad("image(2)", x, () -> x.image(2));
        Check.bad("from(-1)", x, () -> x.from(-1));
        Check.bad("from(2)", x, () -> x.from(2));
        Check.no("from(0) of none", x, () -> x.from(0));
        Check.unchanged("image(0)", x, 1, () -> x.image(0));
        Check.no("from(1) of none", x, () -> x.from(1));
        long kept = x.digest();
        x.undo();
        x.clerk(9);
        x.bundle(91, 91);
        x.band(0, 99, 2);
        x.tell(1, 5, 0, 120);
        x.forget();
        x.image(1);
        long later = x.digest();
        Check.due("from(0)", x.from(0), 1);
        Check.due("all as kept", x.digest(), kept);
        Check.due("from(1)", x.from(1), 1);
        Check.due("all as kept later", x.digest(), later);
        x.from(0);
        Check.due("undo goes on, of back", x.undo(), 2);
        Check.due("its counts", x.of(0, 3), 95);
        Check.due("undo goes on, of tell", x.undo(), 1);
        Check.due("the count that was read", x.of(0, 3), 95);
        Check.no("no more to undo", x, x::undo);
        x.from(0);
        Check.due("an image stays as it was kept", x.digest(), kept);
        x.clear();
        x.likely(0, 95);
        long above = x.part(0);
        long below = x.part(1);
        int refused = x.status(Check.BAD);
        x.from(1);
        Check.due("the text is not the image's", x.count(5), 0);
        Check.fraction("the fraction is not the image's", x, above, below);
        Check.due("status is not the image's", x.status(Check.BAD), refused);
        x.image(0);
        x.from(0);
        Check.due("images are not the image's", x.from(1), 1);
    }

    private static void imageKeepsWhatMayBeUndone() {
        ThriceCounted x = Check.readNew("bank;clerk 1;bundle 90 99;count 0 0 0 95;");
        x.tell(0, 1, 0, 96);
        x.tell(0, 2, 0, 97);
        x.image(1);
        Check.read(x, "bank;clerk 1;bundle 90 99;");
        x.tell(0, 5, 0, 120);
        x.tell(0, 5, 0, 120);
        x.tell(0, 5, 0, 120);
        x.from(1);
        Check.due("two may be undone", x.count(4), 2);
        Check.due("undo", x.undo(), 2);
        Check.due("what was told", x.of(1, 3), 96);
        Check.due("undo", x.undo(), 1);
        Check.due("what was read", x.of(0, 3), 95);
    }

    private static void status() {
        ThriceCounted x = new ThriceCounted();
        Check.refused("status(3)", x, Check.BAD, -1, () -> x.status(3));
        Check.refused("status(-1)", x, Check.BAD, -1, () -> x.status(-1));
        x.undo();
        x.from(1);
        x.undo();
        for (int i = 0; i < 6; i++) {
            x.clerk(1);
        }
        Check.due("BAD", x.status(0), 2);
        Check.due("NO", x.status(1), 3);
        Check.due("FULL", x.status(2), 1);
        x.read();
        x.look(0, 0);
        x.believe();
        x.sum();
        Check.due("a fault, -5 and NONE are no refusals", x.status(0) + x.status(1) + x.status(2), 6);
    }

    private static void count() {
        ThriceCounted x = Check.readNew("bank;clerk 1;bundle 90 99;bundle 90 99;count 0 0 0 95;count 0 0 0 95;");
        x.tell(0, 0, 0, 96);
        for (int i = 0; i < 5; i++) {
            x.cause(0, 1, 0, 0);
        }
        int[] due = {1, 2, 3, 5, 1, 69};
        for (int what = 0; what <= 5; what++) {
            Check.due("count(" + what + ")", x.count(what), due[what]);
        }
        Check.bad("count(-1)", x, () -> x.count(-1));
        Check.bad("count(6)", x, () -> x.count(6));
    }

    private static long mix(long... values) {
        long h = 937;
        for (long v : values) {
            h = 31 * h + v;
        }
        return h;
    }

    private static void digest() {
        ThriceCounted x = new ThriceCounted();
        Check.due("digest at first", x.digest(), mix(0, 0, 0, 0, 0, 0, 0, 1));
        x.clerk(4);
        x.clerk(10);
        x.bundle(90, 99);
        x.bundle(98, 102);
        x.band(1, 100, 1);
        x.tell(1, 5, 0, 120);
        x.tell(0, 2, 1, 95);
        x.cause(-99, 20, 30, 10);
        x.type(7);
        x.likely(0, 95);
        long above = x.part(0);
        long below = x.part(1);
        Check.due("digest", x.digest(), mix(2, 2, 2, 1, 2, 1, 4, 10, 90, 99, -1, -1, 98, 102, 100, 1, 1, 5, 0, 120,
                0, 2, 1, 95, -99, 20, 30, 10, above, below));
        x.back(0);
        Check.due("digest of what is left", x.digest(), mix(2, 2, 1, 1, 3, 1, 4, 10, 90, 99, -1, -1, 98, 102, 100, 1,
                0, 2, 1, 95, -99, 20, 30, 10, above, below));
    }
}
