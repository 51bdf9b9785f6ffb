import java.util.ArrayList;
import java.util.List;

/**
 * All that calls can tell of an object, as a row of numbers: STATUS first, then what it holds, what may be undone, its
 * images with what may be undone in them, and what its text reads as. The object is used up by it.
 */
final class Seen {
    private static final int STATUSES = 3;
    private static final int UNDOS = 8;

    private final List<Long> numbers = new ArrayList<>();

    private Seen() {
    }

    static Seen of(ThriceCounted x) {
        Seen seen = new Seen();
        for (int what = 0; what < STATUSES; what++) {
            seen.numbers.add((long) x.status(what));
        }
        seen.lookAtUndos(x);
        for (int i = 0; i < 2; i++) {
            seen.numbers.add((long) x.from(i));
            seen.lookAtUndos(x);
        }
        seen.numbers.add((long) x.read());
        seen.numbers.add(x.digest());
        return seen;
    }

    private void lookAtUndos(ThriceCounted x) {
        numbers.add(x.digest());
        for (int i = 0; i <= UNDOS; i++) {
            numbers.add((long) x.undo());
            numbers.add(x.digest());
        }
    }

    /** What is seen here is what was seen there, but for one more refusal of that reason (-1: for none). */
    void dueAs(String call, Seen there, int reason) {
        for (int i = 0; i < STATUSES; i++) {
            Check.due(call + ": status " + i, numbers.get(i), there.numbers.get(i) + (i == reason ? 1 : 0));
        }
        boolean alike = numbers.subList(STATUSES, numbers.size()).equals(
                there.numbers.subList(STATUSES, there.numbers.size()));
        Check.due(call + ": all else is as it was", alike ? 1 : 0, 1);
    }
}
