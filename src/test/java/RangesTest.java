import java.util.Arrays;

/**
 * "BAD -2 a number is not as told": every number of every call, the last that is taken and the first that is refused on
 * either side, where nobody and nothing is there, one of each, a bundle that can hold no number, and all is full. A
 * refused call adds one to STATUS and changes nothing else.
 */
public final class RangesTest {
    private static final int MIN = Integer.MIN_VALUE;
    private static final int MAX = Integer.MAX_VALUE;
    private static final String[] CALLS = {"clerk", "bundle", "band", "tell", "back", "type", "way", "odds", "of",
        "about", "likely", "truly", "agreed", "wrong", "enough", "plan", "cause", "why", "look", "writeOff", "drawn",
        "part", "image", "from", "status", "count"};

    public static void main(String[] args) {
        for (States state : States.values()) {
            sizesAreAsTold(state);
            for (String call : CALLS) {
                everyNumberOf(call, state);
                allNumbersWrongAtOnce(call, state);
            }
        }
        lowAndHighDependOnOneAnother();
        Check.finish("RangesTest");
    }

    /** The least and the most that each number of a call may be, the others being as in base. */
    private static int[][] ranges(String call, States state) {
        int[] bundle = {0, state.bundles - 1};
        int[] clerk = {0, state.clerks - 1};
        int[] count = {0, state.counts - 1};
        int[] way = {0, 5};
        int[] off = {-198, 198};
        switch (call) {
            case "clerk": return new int[][] {{0, 10}};
            case "bundle": return new int[][] {{90, 105}, {95, 110}};
            case "band": return new int[][] {bundle, {90, 110}, clerk};
            case "tell": return new int[][] {bundle, way, clerk, {80, 120}};
            case "back": return new int[][] {count};
            case "type": return new int[][] {{0, 127}};
            case "way": return new int[][] {way, {0, 21}};
            case "odds": return new int[][] {way, {-40, 40}};
            case "of": return new int[][] {count, {0, 3}};
            case "about": return new int[][] {bundle, {0, 4}};
            case "likely": return new int[][] {bundle, {90, 110}};
            case "truly": return new int[][] {bundle, {0, 1}};
            case "agreed": return new int[][] {bundle};
            case "wrong": return new int[][] {count};
            case "enough": return new int[][] {bundle, way, {1, 9}};
            case "plan": return new int[][] {bundle, {0, 30}};
            case "cause": return new int[][] {{-99, 99}, {1, 20}, {0, 30}, {0, 10}};
            case "why": return new int[][] {off, {0, 1}};
            case "look": return new int[][] {off, {0, MAX}};
            case "writeOff": return new int[][] {off, {0, 99}};
            case "drawn": return new int[][] {way, {80, 120}, {0, 60}, {0, 999999}, {0, 2}};
            case "status": return new int[][] {{0, 2}};
            case "count": return new int[][] {{0, 5}};
            default: return new int[][] {{0, 1}};
        }
    }

    /** Numbers that are as told, each in its place, where there are such. */
    private static int[] base(String call, int[][] ranges) {
        if (call.equals("bundle")) {
            return new int[] {95, 105};
        }
        int[] numbers = new int[ranges.length];
        for (int i = 0; i < ranges.length; i++) {
            numbers[i] = ranges[i][0];
        }
        return numbers;
    }

    private static long badAnswer(String call) {
        switch (call) {
            case "way": return -100;
            case "about":
            case "look": return -10;
            case "status": return -1;
            default: return -2;
        }
    }

    private static void sizesAreAsTold(States state) {
        ThriceCounted x = state.make();
        Check.due(state + ": clerks", x.count(0), state.clerks);
        Check.due(state + ": bundles", x.count(1), state.bundles);
        Check.due(state + ": counts", x.count(2), state.counts);
        if (state == States.FULL) {
            Check.due("full: causes", x.count(3), 6);
            Check.due("full: may be undone", x.count(4), 8);
            Check.due("full: bytes", x.count(5), 150);
        }
    }

    private static void everyNumberOf(String call, States state) {
        int[][] ranges = ranges(call, state);
        int[] base = base(call, ranges);
        boolean anyTaken = true;
        for (int[] range : ranges) {
            anyTaken &= range[0] <= range[1];
        }
        for (int place = 0; place < ranges.length; place++) {
            int least = ranges[place][0];
            int most = ranges[place][1];
            refused(call, state, with(base, place, MIN));
            refused(call, state, with(base, place, least - 1));
            if (most < MAX) {
                refused(call, state, with(base, place, most + 1));
                refused(call, state, with(base, place, MAX));
            }
            if (anyTaken) {
                taken(call, state, with(base, place, least));
                taken(call, state, with(base, place, most));
            }
        }
    }

    /** It is one call that is refused, however many of its numbers are wrong. */
    private static void allNumbersWrongAtOnce(String call, States state) {
        int[] numbers = new int[ranges(call, state).length];
        Arrays.fill(numbers, MIN);
        refused(call, state, numbers);
    }

    private static void lowAndHighDependOnOneAnother() {
        for (int low = 89; low <= 111; low++) {
            for (int high = 89; high <= 111; high++) {
                if (low >= 90 && low <= high && high <= 110) {
                    taken("bundle", States.EMPTY, low, high);
                } else {
                    refused("bundle", States.EMPTY, low, high);
                }
            }
        }
    }

    private static int[] with(int[] base, int place, int number) {
        int[] numbers = base.clone();
        numbers[place] = number;
        return numbers;
    }

    private static void refused(String call, States state, int... numbers) {
        Twins.refused(state, Check.BAD, badAnswer(call), call, numbers);
    }

    /** It may be refused as NO or FULL yet, but its numbers are not BAD. */
    private static void taken(String call, States state, int... numbers) {
        ThriceCounted x = state.make();
        int before = x.status(Check.BAD);
        Calls.ask(x, call, numbers);
        Check.due(state + ": " + Calls.text(call, numbers) + " is not BAD", x.status(Check.BAD), before);
    }
}
