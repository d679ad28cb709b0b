import java.util.LinkedHashMap;
import java.util.Map;
import java.util.function.Supplier;

/**
 * All that can be seen of a store after a run, so that a test can say what a call changed and that it
 * changed nothing else. A store answers 512 calls, so each part of a look goes through the run anew.
 */
final class Look {
    private final Run run;
    private final Map<String, String> seen = new LinkedHashMap<>();

    private Look(Run run) {
        this.run = run;
    }

    /** The call is refused so, and nothing differs afterwards. */
    static void changesNothing(Class<? extends RuntimeException> kind, Run run, Run call) {
        GroupStore x = new GroupStore();
        run.on(x);
        Checks.refuses(kind, () -> call.on(x));
        sameBut(run, run.then(Run.quietly(call)));
    }

    /** What get, read, log and count tell differs after the call in these lines alone. */
    static void changes(Run run, Run call, String... due) {
        Checks.same(String.join("; ", due), differences(told(run), told(run.then(Run.quietly(call)))));
    }

    /** After the two runs all is the same but for these lines, also what later calls will do. */
    static void sameBut(Run one, Run other, String... due) {
        Checks.same(String.join("; ", due), differences(whole(one), whole(other)));
    }

    private static String differences(Map<String, String> one, Map<String, String> other) {
        StringBuilder found = new StringBuilder();
        for (String name : one.keySet()) {
            if (!one.get(name).equals(other.get(name))) {
                found.append(found.length() == 0 ? "" : "; ");
                found.append(name).append(": ").append(one.get(name)).append(" -> ").append(other.get(name));
            }
        }
        return found.toString();
    }

    private static Map<String, String> told(Run run) {
        Look look = new Look(run);
        look.countsAndGets();
        for (int g = 0; g < 4; g++) {
            look.logs("", look.fresh(), g);
            look.reads(g);
        }
        return look.seen;
    }

    /** The masks of the LOSS, what open transactions hold and what is queued show only in what follows. */
    private static Map<String, String> whole(Run run) {
        Look look = new Look(run);
        look.seen.putAll(told(run));
        for (int g = 0; g < 4; g++) {
            look.commitsAndDeliveries(g);
            look.newTransaction(g);
        }
        return look.seen;
    }

    private GroupStore fresh() {
        GroupStore x = new GroupStore();
        run.on(x);
        return x;
    }

    private void note(String name, Supplier<Object> call) {
        String answer = Checks.outcome(() -> String.valueOf(call.get()));
        seen.put(name, answer.equals(Checks.NOT_THERE.getName()) ? "none" : answer);
    }

    private void countsAndGets() {
        GroupStore x = fresh();
        for (int what = 0; what < 22; what++) {
            int which = what;
            note("count " + what, () -> x.count(which));
        }
        for (int t = 0; t < 5; t++) {
            for (int k = 0; k < 6; k++) {
                int transaction = t;
                int key = k;
                note("get " + t + " " + k, () -> x.get(transaction, key));
            }
        }
    }

    private void logs(String when, GroupStore x, int g) {
        for (int s = 0; s < 3; s++) {
            for (int p = 1; p <= 10; p++) {
                StringBuilder row = new StringBuilder();
                for (int what = 0; what < 5; what++) {
                    row.append(what == 0 ? "" : " ").append(x.log(s, g, p, what));
                }
                seen.put(when + "log " + s + " " + g + " " + p, row.toString());
            }
        }
    }

    private void reads(int g) {
        GroupStore x = fresh();
        for (int i = 0; i < 3 * 6 * 11; i++) {
            int s = i / 66;
            int key = i / 11 % 6;
            int position = i % 11;
            note("read " + s + " " + g + " " + key + " " + position, () -> x.read(s, g, key, position));
        }
    }

    private void commitsAndDeliveries(int g) {
        GroupStore x = fresh();
        for (int t = 0; t < 5; t++) {
            int transaction = t;
            note("then commit " + t, () -> x.commit(transaction));
        }
        for (int i = 0; i < 12; i++) {
            note("then deliver " + i, () -> x.deliver());
        }
        logs("then ", x, g);
        for (int p = 1; p <= 10; p++) {
            int position = p;
            note("then read " + g + " 5 " + p, () -> x.read(0, g, 5, position));
        }
    }

    private void newTransaction(int g) {
        GroupStore x = fresh();
        int s = g % 3;
        note("new begin " + g, () -> x.begin(0, s, g));
        Run.quietly(y -> y.put(0, 0, 1)).on(x);
        note("new commit " + g, () -> x.commit(0));
        logs("new ", x, g);
    }
}
