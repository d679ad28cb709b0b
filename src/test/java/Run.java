/** A run of calls on a store. */
interface Run {
    void on(GroupStore x);

    default Run then(Run next) {
        return x -> {
            on(x);
            next.on(x);
        };
    }

    /** The same run for a call that may be refused: what it throws is looked at elsewhere. */
    static Run quietly(Run call) {
        return x -> {
            try {
                call.on(x);
            } catch (RuntimeException refused) {
                return;
            }
        };
    }
}
