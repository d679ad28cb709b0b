/** "Bad": each argument's last number that is allowed and the first one that is not, on both sides. */
public final class NumbersTest {
    private interface Call {
        void with(GroupStore x, int[] numbers);
    }

    private static final int[] TRANSACTION = {0, 4};
    private static final int[] SERVER = {0, 2};
    private static final int[] GROUP = {0, 3};
    private static final int[] KEY = {0, 5};
    private static final int[] MASK = {0, 7};

    private NumbersTest() {
    }

    public static void main(String[] args) {
        check("server: Server s (0 .. 2) is UP", (x, a) -> x.server(a[0], true), SERVER);
        check("server: Server s (0 .. 2) is UP, or not", (x, a) -> x.server(a[0], false), SERVER);
        check("lose: Sets LOSS (0 .. 7 each)", (x, a) -> x.lose(a[0], a[1]), MASK, MASK);
        check("begin: Opens transaction t (0 .. 4) at server s for group g", (x, a) -> x.begin(a[0], a[1], a[2]),
                TRANSACTION, SERVER, GROUP);
        check("get: The VALUE of the key (0 .. 5)", (x, a) -> x.get(a[0], a[1]), TRANSACTION, KEY);
        check("put: A WRITE of transaction t, a key 0 .. 5", (x, a) -> x.put(a[0], a[1], 9), TRANSACTION, KEY);
        check("send: A MESSAGE of transaction t to the group (0 .. 3)", (x, a) -> x.send(a[0], a[1], 9), TRANSACTION,
                GROUP);
        check("commit: COMMITS transaction t", (x, a) -> x.commit(a[0]), TRANSACTION);
        check("abort: Transaction t is over", (x, a) -> x.abort(a[0]), TRANSACTION);
        check("catchUp: Server s in group g", (x, a) -> x.catchUp(a[0], a[1]), SERVER, GROUP);
        check("read: key in group g of server s, position 0 or 1 .. its EDGE",
                (x, a) -> x.read(a[0], a[1], a[2], a[3]), SERVER, GROUP, KEY, new int[] {0, 10});
        check("log: Of server s, group g, position (1 .. 10), what 0 .. 4", (x, a) -> x.log(a[0], a[1], a[2], a[3]),
                SERVER, GROUP, new int[] {1, 10}, new int[] {0, 4});
        Checks.finish();
    }

    private static void check(String words, Call call, int[]... ranges) {
        Checks.sentence(words, () -> allAreAllowed(call, ranges));
        Checks.sentence(words + ": \"Bad\", before all else, changes nothing", () -> othersAreBad(call, ranges));
        Checks.sentence(words + ": several Bad at once", () -> allBadAtOnce(call, ranges));
    }

    /** Goes through every choice of allowed numbers; another refusal than Bad may be due. */
    private static void allAreAllowed(Call call, int[][] ranges) {
        int choices = 1;
        for (int[] range : ranges) {
            choices *= range[1] - range[0] + 1;
        }
        for (int choice = 0; choice < choices; choice++) {
            int[] numbers = new int[ranges.length];
            int rest = choice;
            for (int i = 0; i < ranges.length; i++) {
                int width = ranges[i][1] - ranges[i][0] + 1;
                numbers[i] = ranges[i][0] + rest % width;
                rest /= width;
            }
            Checks.same("false", String.valueOf(isBad(call, numbers)));
        }
    }

    private static boolean isBad(Call call, int[] numbers) {
        GroupStore x = new GroupStore();
        return Checks.BAD.getName().equals(Checks.outcome(() -> {
            call.with(x, numbers);
            return "";
        }));
    }

    private static void othersAreBad(Call call, int[][] ranges) {
        for (int i = 0; i < ranges.length; i++) {
            int[] bads = {ranges[i][0] - 1, ranges[i][1] + 1, Integer.MIN_VALUE, Integer.MAX_VALUE};
            for (int bad : bads) {
                int[] numbers = lowest(ranges);
                numbers[i] = bad;
                refusedInEveryState(call, numbers);
            }
        }
    }

    private static void allBadAtOnce(Call call, int[][] ranges) {
        int[] below = lowest(ranges);
        int[] above = lowest(ranges);
        for (int i = 0; i < ranges.length; i++) {
            below[i] = ranges[i][0] - 1;
            above[i] = ranges[i][1] + 1;
        }
        refusedInEveryState(call, below);
        refusedInEveryState(call, above);
    }

    private static int[] lowest(int[][] ranges) {
        int[] numbers = new int[ranges.length];
        for (int i = 0; i < ranges.length; i++) {
            numbers[i] = ranges[i][0];
        }
        return numbers;
    }

    private static void refusedInEveryState(Call call, int[] numbers) {
        Look.changesNothing(Checks.BAD, x -> { }, x -> call.with(x, numbers));
        Look.changesNothing(Checks.BAD, NumbersTest::nothingIsUp, x -> call.with(x, numbers));
        Look.changesNothing(Checks.BAD, NumbersTest::allIsFull, x -> call.with(x, numbers));
    }

    /** Most calls would be refused for want of a server. */
    private static void nothingIsUp(GroupStore x) {
        Steps.commitMessage(x, 0, 1, 3);
        Steps.write(x, 0, 0, 0, 1);
        x.lose(5, 3);
        Steps.onlyUp(x, 0);
    }

    /** Transactions have no room for writes and messages, and group 0 none for entries. */
    private static void allIsFull(GroupStore x) {
        Steps.fill(x, 0, 9);
        Steps.commitMessage(x, 0, 0, 3);
        for (int t = 0; t < 5; t++) {
            x.begin(t, t % 3, t % 4);
            for (int i = 0; i < 3; i++) {
                x.put(t, i + 1, i);
            }
            x.send(t, 0, 1);
            x.send(t, 3, 1);
        }
        x.lose(6, 4);
    }
}
