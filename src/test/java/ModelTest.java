/** Runs of mixed calls, the same in every test: GroupStore and the plain model must answer alike. */
public final class ModelTest {
    private static final int RUNS = 3000;
    // With the look at the state behind them the calls stay within the document's 512 for an object.
    private static final int CALLS = 300;

    private long seed;
    private final GroupStore store = new GroupStore();
    private final PlainModel model = new PlainModel();
    // Few groups and transactions and little trouble make a log run full, much of them leaves it short.
    private final int groups;
    private final int transactions;
    private final int trouble;

    private ModelTest(int run) {
        seed = run * 7919L + 17;
        groups = 1 + run % 4;
        transactions = 1 + run / 4 % 5;
        trouble = run / 20 % 5;
    }

    public static void main(String[] args) {
        for (int run = 0; run < RUNS; run++) {
            new ModelTest(run).go(run);
        }
        Checks.finish();
    }

    private void go(int run) {
        for (int i = 0; i < CALLS; i++) {
            call("run " + run + " call " + i);
        }
        int g = number(groups);
        for (int s = 0; s < 3; s++) {
            for (int p = 1; p <= 10; p++) {
                for (int what = 0; what < 5; what++) {
                    logs("run " + run + " end", s, g, p, what);
                }
            }
        }
        for (int what = -1; what <= 22; what++) {
            counts("run " + run + " end", what);
        }
        for (int key = 0; key < 6; key++) {
            reads("run " + run + " end", number(3), g, key, 0);
        }
    }

    private int number(int bound) {
        seed = seed * 6364136223846793005L + 1442695040888963407L;
        return (int) ((seed >>> 33) % bound);
    }

    /** Mostly a number in range, now and then one beside it. */
    private int near(int bound) {
        return number(60) == 0 ? (number(2) == 0 ? -1 : bound) : number(bound);
    }

    private int group() {
        return number(60) == 0 ? 4 : number(groups);
    }

    private int transaction() {
        return number(60) == 0 ? 5 : number(transactions);
    }

    private int value() {
        return number(8) == 0 ? Integer.MAX_VALUE - number(3) : number(200) - 100;
    }

    private void call(String place) {
        if (number(20) < trouble) {
            makeTrouble(place);
            return;
        }
        int kind = number(36);
        int t = transaction();
        int g = group();
        int value = value();
        if (kind < 6) {
            int s = near(3);
            match(place + " begin " + t + " " + s + " " + g, () -> "" + store.begin(t, s, g),
                    () -> "" + model.begin(t, s, g));
        } else if (kind < 14) {
            int key = near(6);
            match(place + " put " + t + " " + key, () -> did(() -> store.put(t, key, value)),
                    () -> did(() -> model.put(t, key, value)));
        } else if (kind < 18) {
            match(place + " send " + t + " " + g, () -> did(() -> store.send(t, g, value)),
                    () -> did(() -> model.send(t, g, value)));
        } else if (kind < 24) {
            match(place + " commit " + t, () -> "" + store.commit(t), () -> "" + model.commit(t));
        } else {
            otherCall(place, kind);
        }
    }

    private void makeTrouble(String place) {
        if (number(3) == 0) {
            int s = near(3);
            boolean up = number(4) > 0;
            match(place + " server " + s + " " + up, () -> did(() -> store.server(s, up)),
                    () -> did(() -> model.server(s, up)));
        } else {
            int first = near(8);
            int second = near(8);
            match(place + " lose " + first + " " + second, () -> did(() -> store.lose(first, second)),
                    () -> did(() -> model.lose(first, second)));
        }
    }

    private void otherCall(String place, int kind) {
        int t = transaction();
        int s = near(3);
        int g = group();
        int key = near(6);
        if (kind < 27) {
            match(place + " deliver", () -> "" + store.deliver(), () -> "" + model.deliver());
        } else if (kind < 29) {
            match(place + " get " + t + " " + key, () -> "" + store.get(t, key), () -> "" + model.get(t, key));
        } else if (kind < 31) {
            reads(place, s, g, key, near(11));
        } else if (kind < 32) {
            match(place + " catchUp " + s + " " + g, () -> "" + store.catchUp(s, g), () -> "" + model.catchUp(s, g));
        } else if (kind < 33 && number(3) == 0) {
            match(place + " abort " + t, () -> did(() -> store.abort(t)), () -> did(() -> model.abort(t)));
        } else if (kind < 35) {
            logs(place, s, g, number(12), near(5));
        } else {
            counts(place, number(24) - 1);
        }
    }

    private void reads(String place, int s, int g, int key, int position) {
        match(place + " read " + s + " " + g + " " + key + " " + position, () -> "" + store.read(s, g, key, position),
                () -> "" + model.read(s, g, key, position));
    }

    private void logs(String place, int s, int g, int position, int what) {
        match(place + " log " + s + " " + g + " " + position + " " + what, () -> "" + store.log(s, g, position, what),
                () -> "" + model.log(s, g, position, what));
    }

    private void counts(String place, int what) {
        match(place + " count " + what, () -> "" + store.count(what), () -> "" + model.count(what));
    }

    private static String did(Runnable call) {
        call.run();
        return "nothing";
    }

    private static void match(String call, java.util.function.Supplier<String> got,
            java.util.function.Supplier<String> want) {
        Checks.same(call + ": " + Checks.outcome(want), call + ": " + Checks.outcome(got));
    }
}
