/**
 * NO and FULL, each told answer of them; BAD ahead of them; what is no refusal; and calls that change nothing. That BAD
 * changes nothing else is looked at by RangesTest, for every number of every call.
 */
public final class RefusalsTest {
    public static void main(String[] args) {
        full();
        badAheadOfFull();
        no();
        badAheadOfNo();
        noneIsNoRefusal();
        nothingIsChangedByThese();
        statusCountsEachReasonApart();
        Check.finish("RefusalsTest");
    }

    /** "FULL: 5", "FULL: 5", "FULL: 8", "FULL" of THE TEXT, "FULL: 6". */
    private static void full() {
        Twins.refused(States.FULL, Check.FULL, -4, "clerk", 0);
        Twins.refused(States.FULL, Check.FULL, -4, "clerk", 10);
        Twins.refused(States.FULL, Check.FULL, -4, "bundle", 90, 110);
        Twins.refused(States.FULL, Check.FULL, -4, "tell", 0, 0, 0, 100);
        Twins.refused(States.FULL, Check.FULL, -4, "tell", 4, 5, 4, 120);
        Twins.refused(States.FULL, Check.FULL, -4, "type", 0);
        Twins.refused(States.FULL, Check.FULL, -4, "type", 127);
        Twins.refused(States.FULL, Check.FULL, -4, "cause", 0, 1, 0, 0);
    }

    /** "Refused .. the first of: BAD .. FULL". */
    private static void badAheadOfFull() {
        Twins.refused(States.FULL, Check.BAD, -2, "clerk", 11);
        Twins.refused(States.FULL, Check.BAD, -2, "bundle", 91, 90);
        Twins.refused(States.FULL, Check.BAD, -2, "tell", 5, 0, 0, 100);
        Twins.refused(States.FULL, Check.BAD, -2, "tell", 0, 0, 0, 121);
        Twins.refused(States.FULL, Check.BAD, -2, "type", 128);
        Twins.refused(States.FULL, Check.BAD, -2, "cause", 0, 0, 0, 0);
    }

    /** "NO: none may be", "NO: no number can be" of three calls, "NO: none was kept". */
    private static void no() {
        Twins.refused(States.EMPTY, Check.NO, -3, "undo");
        Twins.refused(States.STUCK, Check.NO, -3, "likely", 0, 90);
        Twins.refused(States.STUCK, Check.NO, -3, "likely", 0, 100);
        Twins.refused(States.STUCK, Check.NO, -3, "wrong", 1);
        Twins.refused(States.STUCK, Check.NO, -3, "plan", 0, 0);
        Twins.refused(States.STUCK, Check.NO, -3, "plan", 0, 30);
        Twins.refused(States.EMPTY, Check.NO, -3, "from", 0);
        Twins.refused(States.EMPTY, Check.NO, -3, "from", 1);
        Twins.refused(States.STUCK, Check.NO, -3, "from", 0);
    }

    private static void badAheadOfNo() {
        Twins.refused(States.STUCK, Check.BAD, -2, "likely", 0, 89);
        Twins.refused(States.STUCK, Check.BAD, -2, "plan", 0, 31);
        Twins.refused(States.EMPTY, Check.BAD, -2, "from", 2);
    }

    /** NONE, 0, -5 and a FAULT are answers; STATUS counts none of them. */
    private static void noneIsNoRefusal() {
        Twins.refused(States.EMPTY, -1, -1, "believe");
        Twins.refused(States.EMPTY, -1, 0, "open");
        Twins.refused(States.EMPTY, -1, 0, "sum");
        Twins.refused(States.EMPTY, -1, 0, "bank");
        Twins.refused(States.EMPTY, -1, 0, "clear");
        Twins.refused(States.EMPTY, -1, 0, "forget");
        Twins.refused(States.EMPTY, -1, -10, "read");
        Twins.refused(States.EMPTY, -1, 0, "why", 0, 0);
        Twins.refused(States.EMPTY, -1, -1, "why", 0, 1);
        Twins.refused(States.EMPTY, -1, -5, "look", 0, 0);
        Twins.refused(States.EMPTY, -1, -5, "look", 0, Integer.MAX_VALUE);
        Twins.refused(States.EMPTY, -1, -1, "drawn", 0, 100, 0, 0, 1);
        Twins.refused(States.ONE, -1, -1, "about", 0, 2);
        Twins.refused(States.ONE, -1, -1, "about", 0, 3);
        Twins.refused(States.ONE, -1, -5, "look", -3, 1);
        Twins.refused(States.ONE, -1, -1, "agreed", 0);
        Twins.refused(States.STUCK, -1, -1, "truly", 0, 0);
        Twins.refused(States.STUCK, -1, 0, "truly", 0, 1);
        Twins.refused(States.STUCK, -1, -1, "enough", 0, 0, 1);
        Twins.refused(States.STUCK, -1, -1, "sum");
    }

    /** "(Nothing is changed by these.)" */
    private static void nothingIsChangedByThese() {
        int[][] two = {{0, 0}, {0, 1}};
        for (States state : new States[] {States.ONE, States.STUCK, States.FULL}) {
            for (String call : new String[] {"believe", "open", "sum", "digest"}) {
                Twins.unchanged(state, call);
            }
            for (int[] numbers : two) {
                for (String call : new String[] {"way", "odds", "of", "about", "truly", "why", "look", "writeOff"}) {
                    Twins.unchanged(state, call, numbers);
                }
            }
            for (int what = 0; what <= 1; what++) {
                Twins.unchanged(state, "part", what);
                Twins.unchanged(state, "status", what);
                Twins.unchanged(state, "count", what);
            }
            int last = state.bundles - 1;
            Twins.unchanged(state, "agreed", last);
            Twins.unchanged(state, "wrong", 0);
            Twins.unchanged(state, "likely", last, 100);
            Twins.unchanged(state, "plan", last, 30);
            Twins.unchanged(state, "enough", last, 2, 9);
            Twins.unchanged(state, "drawn", 5, 100, 60, 7, 1);
        }
        Twins.unchanged(States.FULL, "look", 10, 2);
        Twins.unchanged(States.FULL, "why", 10, 1);
    }

    /** "STATUS: how many calls were refused as BAD, NO, FULL". */
    private static void statusCountsEachReasonApart() {
        ThriceCounted x = States.FULL.make();
        Check.due("BAD as it was", x.status(0), 1);
        Check.due("NO as it was", x.status(1), 1);
        Check.due("FULL as it was", x.status(2), 1);
        for (int i = 0; i < 30; i++) {
            x.cause(0, 1, 0, 0);
        }
        for (int i = 0; i < 20; i++) {
            x.back(8);
        }
        x.bank();
        for (int i = 0; i < 10; i++) {
            x.undo();
        }
        Check.due("BAD behind bank()", x.status(0), 0);
        Check.due("NO behind bank()", x.status(1), 10);
        Check.due("FULL behind bank()", x.status(2), 0);
    }
}
