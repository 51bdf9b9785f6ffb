import java.util.function.LongSupplier;

/** What the tests share: asks a call, prints it where its answer is not the one that is due, and ends with 1 then. */
final class Check {
    static final int BAD = 0, NO = 1, FULL = 2;
    private static int asked = 0;
    private static int wrong = 0;

    private Check() {
    }

    static void due(String call, long got, long want) {
        asked++;
        if (got != want) {
            wrong++;
            System.out.println(call + " answered " + got + ", due is " + want);
        }
    }

    static void fraction(String call, ThriceCounted x, long above, long below) {
        due(call + ": above", x.part(0), above);
        due(call + ": below", x.part(1), below);
    }

    /** A call that is refused: its answer, one more in its status alone, and nothing else changed. */
    static void refused(String call, ThriceCounted x, int reason, long want, LongSupplier ask) {
        int[] before = {x.status(BAD), x.status(NO), x.status(FULL)};
        long digest = x.digest();
        due(call, ask.getAsLong(), want);
        for (int i = 0; i < 3; i++) {
            due(call + ": status " + i, x.status(i), before[i] + (i == reason ? 1 : 0));
        }
        due(call + ": digest", x.digest(), digest);
    }

    /** A call that answers so without being refused and without changing anything. */
    static void unchanged(String call, ThriceCounted x, long want, LongSupplier ask) {
        refused(call, x, -1, want, ask);
    }

    static void bad(String call, ThriceCounted x, LongSupplier ask) {
        refused(call, x, BAD, ThriceCounted.BAD, ask);
    }

    static void no(String call, ThriceCounted x, LongSupplier ask) {
        refused(call, x, NO, ThriceCounted.NO, ask);
    }

    static void full(String call, ThriceCounted x, LongSupplier ask) {
        refused(call, x, FULL, ThriceCounted.FULL, ask);
    }

    static void typeText(ThriceCounted x, String text) {
        x.clear();
        for (int i = 0; i < text.length(); i++) {
            x.type(text.charAt(i));
        }
    }

    static int read(ThriceCounted x, String text) {
        typeText(x, text);
        return x.read();
    }

    static ThriceCounted readNew(String text) {
        ThriceCounted x = new ThriceCounted();
        if (read(x, text) < 0) {
            due("read of " + text, -1, 0);
        }
        return x;
    }

    static void finish(String name) {
        System.out.println(name + ": " + asked + " answers, " + wrong + " not as due");
        if (wrong != 0) {
            System.exit(1);
        }
    }
}
