/** The states that tests of refusals begin from; each is made anew, always by the same calls. */
enum States {
    EMPTY(0, 0, 0), ONE(1, 1, 1), STUCK(1, 2, 2), FULL(5, 5, 8);

    /** 150 bytes, so that the text is full too. */
    private static final String TEXT = "bank;clerk 9;clerk 5;bundle 95 105;bundle 90 110;band 0 100 0;"
            + "count 0 0 0 99;count 0 1 1 100;" + " ".repeat(45) + "band 1 90 1;";

    final int clerks;
    final int bundles;
    final int counts;

    States(int clerks, int bundles, int counts) {
        this.clerks = clerks;
        this.bundles = bundles;
        this.counts = counts;
    }

    ThriceCounted make() {
        switch (this) {
            case ONE: return one();
            case STUCK: return stuck();
            case FULL: return full();
            default: return new ThriceCounted();
        }
    }

    private static ThriceCounted one() {
        ThriceCounted x = new ThriceCounted();
        x.clerk(7);
        x.bundle(95, 105);
        x.tell(0, 2, 0, 100);
        x.cause(-3, 4, 5, 6);
        x.likely(0, 100);
        return x;
    }

    /** No number can be in bundle 0; image 1 alone is kept. */
    private static ThriceCounted stuck() {
        ThriceCounted x = new ThriceCounted();
        x.clerk(7);
        x.bundle(95, 105);
        x.bundle(99, 100);
        x.tell(1, 0, 0, 99);
        x.likely(1, 99);
        x.image(1);
        x.tell(0, 0, 0, 120);
        return x;
    }

    /** Five clerks and bundles, eight counts, six causes, eight to undo, 150 bytes, both images, each refusal once. */
    private static ThriceCounted full() {
        ThriceCounted x = Check.readNew("bank;clerk 4;bundle 97 99;count 0 2 0 98;");
        x.undo();
        x.tell(0, 3, 0, 97);
        x.image(0);
        Check.typeText(x, TEXT);
        x.read();
        for (int i = 0; i < 3; i++) {
            x.clerk(i * 5);
            x.bundle(95 + i, 100 + i);
            x.band(2 + i, 99 + i, 2 + i);
            x.tell(2 + i, i, 2 - i, 98 + i);
        }
        x.image(1);
        for (int i = 0; i < 6; i++) {
            x.cause(i % 2 == 0 ? 10 : -10, 3 + i, 6 * i, 10 - i);
        }
        x.back(1);
        for (int i = 0; i < 4; i++) {
            x.tell(i, 5 - i, i, 99 + i % 2);
        }
        x.likely(1, 99);
        x.clerk(-1);
        x.clerk(0);
        return x;
    }
}
