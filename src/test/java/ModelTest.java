/** Runs of mixed calls, the same in every test: GroupStore and the plain model must answer alike. */
public final class ModelTest {
    private static final int RUNS = 3000;
    // With the look at the state behind them the calls stay within the document's 512 for an object.
    private static final int CALLS = 300;

    private long seed;
    private final GroupStore store = new GroupStore();
    private final PlainModel model = new PlainModel();
    private final int groups;

    private ModelTest(int run) {
        seed = run * 7919L + 17;
        // Few groups make a log run full, many leave it short.
        groups = 1 + run % 4;
    }

    public static void main(String[] args) {
        for (int run = 0; run < RUNS; run++) {
            new ModelTest(run).go(run);
        }
        Checks.finish();
    }

    private void go(int run) {
        for (int i = 0; i < CALLS; i++) {
            call("run " + run + " call " + i);
        }
        int g = number(groups);
        for (int s = 0; s < 3; s++) {
            for (int p = 1; p <= 10; p++) {
                for (int what = 0; what < 5; what++) {
                    logs("run " + run + " end", s, g, p, what);
                }
            }
        }
        for (int what = -1; what <= 22; what++) {
            counts("run " + run + " end", what);
        }
        for (int key = 0; key < 6; key++) {
            reads("run " + run + " end", number(3), g, key, 0);
        }
    }

    private int number(int bound) {
        seed = seed * 6364136223846793005L + 1442695040888963407L;
        return (int) ((seed >>> 33) % bound);
    }

    /** Mostly a number in range, now and then one beside it. */
    private int near(int bound) {
        return number(60) == 0 ? (number(2) == 0 ? -1 : bound) : number(bound);
    }

    private int group() {
        return number(60) == 0 ? 4 : number(groups);
    }

    private int value() {
        return number(8) == 0 ? Integer.MAX_VALUE - number(3) : number(200) - 100;
    }

    private void call(String place) {
        int kind = number(40);
        if (kind < 7) {
            int t = near(5);
            int s = near(3);
            int g = group();
            match(place + " begin " + t + " " + s + " " + g, () -> "" + store.begin(t, s, g),
                    () -> "" + model.begin(t, s, g));
        } else if (kind < 12) {
            int t = near(5);
            int key = near(6);
            int value = value();
            match(place + " put " + t + " " + key, () -> did(() -> store.put(t, key, value)),
                    () -> did(() -> model.put(t, key, value)));
        } else if (kind < 15) {
            int t = near(5);
            int g = group();
            int value = value();
            match(place + " send " + t + " " + g, () -> did(() -> store.send(t, g, value)),
                    () -> did(() -> model.send(t, g, value)));
        } else if (kind < 21) {
            int t = near(5);
            match(place + " commit " + t, () -> "" + store.commit(t), () -> "" + model.commit(t));
        } else if (kind < 25) {
            int first = near(8);
            int second = near(8);
            match(place + " lose " + first + " " + second, () -> did(() -> store.lose(first, second)),
                    () -> did(() -> model.lose(first, second)));
        } else if (kind < 29) {
            int s = near(3);
            boolean up = number(3) > 0;
            match(place + " server " + s + " " + up, () -> did(() -> store.server(s, up)),
                    () -> did(() -> model.server(s, up)));
        } else {
            otherCall(place, kind);
        }
    }

    private void otherCall(String place, int kind) {
        if (kind < 31) {
            match(place + " deliver", () -> "" + store.deliver(), () -> "" + model.deliver());
        } else if (kind < 33) {
            int t = near(5);
            int key = near(6);
            match(place + " get " + t + " " + key, () -> "" + store.get(t, key), () -> "" + model.get(t, key));
        } else if (kind < 35) {
            reads(place, near(3), group(), near(6), near(11));
        } else if (kind < 36) {
            int s = near(3);
            int g = group();
            match(place + " catchUp " + s + " " + g, () -> "" + store.catchUp(s, g), () -> "" + model.catchUp(s, g));
        } else if (kind < 37 && number(3) == 0) {
            int t = near(5);
            match(place + " abort " + t, () -> did(() -> store.abort(t)), () -> did(() -> model.abort(t)));
        } else if (kind < 39) {
            logs(place, near(3), group(), number(12), near(5));
        } else {
            counts(place, number(24) - 1);
        }
    }

    private void reads(String place, int s, int g, int key, int position) {
        match(place + " read " + s + " " + g + " " + key + " " + position, () -> "" + store.read(s, g, key, position),
                () -> "" + model.read(s, g, key, position));
    }

    private void logs(String place, int s, int g, int position, int what) {
        match(place + " log " + s + " " + g + " " + position + " " + what, () -> "" + store.log(s, g, position, what),
                () -> "" + model.log(s, g, position, what));
    }

    private void counts(String place, int what) {
        match(place + " count " + what, () -> "" + store.count(what), () -> "" + model.count(what));
    }

    private static String did(Runnable call) {
        call.run();
        return "nothing";
    }

    private static void match(String call, java.util.function.Supplier<String> got,
            java.util.function.Supplier<String> want) {
        Checks.same(call + ": " + Checks.outcome(want), call + ": " + Checks.outcome(got));
    }
}
