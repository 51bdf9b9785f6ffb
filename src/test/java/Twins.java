/** Two objects made by the same calls, of which one is asked one call more: what the call changed is what differs. */
final class Twins {
    private Twins() {
    }

    /** The call is refused: its answer, one more in STATUS for that reason, and nothing else changed. */
    static void refused(States state, int reason, long want, String call, int... numbers) {
        String text = state + ": " + Calls.text(call, numbers);
        ThriceCounted asked = state.make();
        Check.due(text, Calls.ask(asked, call, numbers), want);
        Seen.of(asked).dueAs(text, Seen.of(state.make()), reason);
    }

    /** The call is answered and changes nothing; THE FRACTION may be the call's, so both are then asked for another. */
    static void unchanged(States state, String call, int... numbers) {
        String text = state + ": " + Calls.text(call, numbers);
        ThriceCounted asked = state.make();
        ThriceCounted other = state.make();
        Calls.ask(asked, call, numbers);
        setFraction(asked);
        setFraction(other);
        Seen.of(asked).dueAs(text, Seen.of(other), -1);
    }

    private static void setFraction(ThriceCounted x) {
        Check.due("the last bundle is likely to hold 99", x.likely(x.count(1) - 1, 99), 1);
    }
}
