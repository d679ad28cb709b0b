/** Calls that many runs have in common. */
final class Steps {
    private Steps() {
    }

    /** Opens transaction t at the server for group 0 and puts one value. */
    static void write(GroupStore x, int t, int s, int key, int value) {
        write(x, t, s, 0, key, value);
    }

    static void write(GroupStore x, int t, int s, int g, int key, int value) {
        Checks.goes(() -> x.begin(t, s, g));
        Checks.goes(() -> x.put(t, key, value));
    }

    static void commitWrite(GroupStore x, int s, int g, int key, int value) {
        write(x, 4, s, g, key, value);
        Checks.goes(() -> x.commit(4));
    }

    /** An entry of group 0 with one message. */
    static void commitMessage(GroupStore x, int s, int group, int value) {
        Checks.goes(() -> x.begin(4, s, 0));
        Checks.goes(() -> x.send(4, group, value));
        Checks.goes(() -> x.commit(4));
    }

    /** An entry of the group that server s alone accepts and no one knows as chosen. */
    static void loseWrite(GroupStore x, int s, int g, int key, int value) {
        write(x, 4, s, g, key, value);
        x.lose(0, 7);
        Checks.refuses(Checks.NO_MAJORITY, () -> x.commit(4));
    }

    /** Fills the log of the group: position p writes p to key 0. */
    static void fill(GroupStore x, int g) {
        fill(x, g, 10);
    }

    static void fill(GroupStore x, int g, int end) {
        for (int p = 1; p <= end; p++) {
            commitWrite(x, 0, g, 0, p);
        }
    }

    static void onlyUp(GroupStore x, int servers) {
        for (int s = 0; s < 3; s++) {
            x.server(s, (servers >> s & 1) != 0);
        }
    }

    /** The five answers of log: promise, accepted ballot and entry, whether chosen and which entry. */
    static void logIs(GroupStore x, int s, int g, int position, String want) {
        StringBuilder got = new StringBuilder();
        for (int what = 0; what < 5; what++) {
            got.append(what == 0 ? "" : " ").append(x.log(s, g, position, what));
        }
        Checks.same(want, got.toString());
    }

    static void countsAre(GroupStore x, String want) {
        StringBuilder got = new StringBuilder();
        for (int what = 0; what <= 8; what++) {
            got.append(what == 0 ? "" : " ").append(x.count(what));
        }
        Checks.same(want, got.toString());
    }
}
