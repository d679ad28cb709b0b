/** For each promise of the document: ordinary calls, the edges that it names, and wrong numbers. */
public final class PromisesTest {
    private PromisesTest() {
    }

    public static void main(String[] args) {
        newObject();
        server();
        lose();
        lossIsForOneRound();
        lossLeavesTheRunner();
        begin();
        beginCatchesUp();
        get();
        put();
        send();
        commit();
        commitThatIsRefused();
        commitMadeGoodLater();
        abort();
        catchUp();
        catchUpClosesGaps();
        catchUpAsksOnlyServersThatAreUp();
        catchUpStopsHalfWay();
        read();
        deliver();
        deliverThatIsRefused();
        deliverCatchesUpFirst();
        queueTakesAPositionOnce();
        log();
        ballots();
        greatestBallotWins();
        count();
        noMajoritiesAreCounted();
        beginWithoutMajorityKeepsTheOldOne();
        emptyCommit();
        badNumbersComeFirst();
        Checks.finish();
    }

    // Promise 1

    private static void newObject() {
        GroupStore x = new GroupStore();
        Checks.answers(3, () -> x.count(0));
        for (int what = 1; what <= 8; what++) {
            int which = what;
            Checks.answers(0, () -> x.count(which));
        }
        for (int what = 10; what <= 21; what++) {
            int which = what;
            Checks.answers(0, () -> x.count(which));
        }
        for (int what = 0; what <= 4; what++) {
            int which = what;
            Checks.answers(0, () -> x.log(0, 0, 1, which));
            Checks.answers(0, () -> x.log(2, 3, 10, which));
        }
        Checks.refuses(Checks.NOT_THERE, () -> x.read(0, 0, 0, 0));
        Checks.refuses(Checks.NOT_THERE, () -> x.deliver());
        Checks.refuses(Checks.NOT_THERE, () -> x.abort(0));
        Checks.answers(0, () -> x.catchUp(2, 3));
        Checks.answers(0, () -> x.count(3));
    }

    // Promise 2

    private static void server() {
        GroupStore x = new GroupStore();
        Checks.goes(() -> x.server(1, false));
        Checks.answers(2, () -> x.count(0));
        Checks.goes(() -> x.server(1, false));
        Checks.answers(2, () -> x.count(0));
        Checks.refuses(Checks.NO_MAJORITY, () -> x.catchUp(1, 0));
        Steps.commitWrite(x, 0, 0, 1, 1);
        Checks.answers(0, () -> x.log(1, 0, 1, 0));
        Checks.answers(0, () -> x.log(1, 0, 1, 3));
        Checks.goes(() -> x.server(1, true));
        Checks.answers(3, () -> x.count(0));
        Checks.answers(0, () -> x.count(14));
        Checks.answers(1, () -> x.catchUp(1, 0));
        Checks.goes(() -> x.server(0, false));
        Checks.goes(() -> x.server(2, false));
        Checks.answers(1, () -> x.count(0));
        Checks.refuses(Checks.BAD, () -> x.server(-1, true));
        Checks.refuses(Checks.BAD, () -> x.server(3, false));
        Checks.answers(1, () -> x.count(0));
    }

    // Promise 3

    private static void lose() {
        GroupStore x = new GroupStore();
        Checks.goes(() -> x.lose(0, 0));
        Checks.goes(() -> x.lose(7, 7));
        Checks.refuses(Checks.BAD, () -> x.lose(-1, 0));
        Checks.refuses(Checks.BAD, () -> x.lose(8, 0));
        Checks.refuses(Checks.BAD, () -> x.lose(0, -1));
        Checks.refuses(Checks.BAD, () -> x.lose(0, 8));
        // The refused ones left 7 and 7 standing.
        Steps.write(x, 0, 0, 0, 1);
        Checks.refuses(Checks.NO_MAJORITY, () -> x.commit(0));
        // The later of two masks stands alone.
        x.lose(7, 7);
        x.lose(0, 0);
        Steps.write(x, 0, 0, 0, 1);
        Checks.answers(1, () -> x.commit(0));
    }

    private static void lossIsForOneRound() {
        GroupStore x = new GroupStore();
        x.lose(6, 6);
        Steps.write(x, 0, 0, 0, 1);
        Checks.refuses(Checks.NO_MAJORITY, () -> x.commit(0));
        Checks.answers(1, () -> x.log(0, 0, 1, 0));
        Checks.answers(0, () -> x.log(0, 0, 1, 1));
        Checks.answers(0, () -> x.log(1, 0, 1, 0));
        // The second mask is gone too, though that round had no second half.
        Steps.write(x, 0, 0, 0, 1);
        Checks.answers(1, () -> x.commit(0));
        Checks.answers(1, () -> x.log(1, 0, 1, 3));
        // A commit that runs no round leaves the masks as they are.
        x.lose(0, 4);
        x.begin(1, 1, 0);
        Checks.answers(0, () -> x.commit(1));
        Steps.write(x, 1, 1, 0, 2);
        Checks.answers(2, () -> x.commit(1));
        Checks.answers(0, () -> x.log(2, 0, 2, 3));
        Checks.answers(1, () -> x.log(0, 0, 2, 3));
    }

    private static void lossLeavesTheRunner() {
        GroupStore x = new GroupStore();
        x.lose(3, 6);
        Steps.write(x, 0, 1, 0, 1);
        Checks.answers(1, () -> x.commit(0));
        // Server 0 is reached in the second half alone and promises there, server 2 in the first alone.
        Steps.logIs(x, 0, 0, 1, "2 2 1 1 1");
        Steps.logIs(x, 1, 0, 1, "2 2 1 1 1");
        Steps.logIs(x, 2, 0, 1, "2 0 0 0 0");
    }

    // Promise 4

    private static void begin() {
        GroupStore x = new GroupStore();
        Checks.answers(0, () -> x.begin(0, 0, 0));
        Checks.answers(0, () -> x.begin(4, 2, 3));
        Checks.answers(2, () -> x.count(1));
        x.put(0, 1, 11);
        Checks.answers(0, () -> x.begin(0, 1, 2));
        Checks.answers(2, () -> x.count(1));
        Checks.refuses(Checks.NOT_THERE, () -> x.get(0, 1));
        x.server(1, false);
        Checks.refuses(Checks.NO_MAJORITY, () -> x.begin(1, 1, 0));
        Checks.answers(2, () -> x.count(1));
        Checks.answers(0, () -> x.begin(1, 0, 0));
        for (int[] bad : new int[][] {{-1, 0, 0}, {5, 0, 0}, {0, -1, 0}, {0, 3, 0}, {0, 0, -1}, {0, 0, 4}}) {
            Checks.refuses(Checks.BAD, () -> x.begin(bad[0], bad[1], bad[2]));
        }
        Checks.answers(3, () -> x.count(1));
    }

    private static void beginCatchesUp() {
        GroupStore x = new GroupStore();
        x.server(2, false);
        Steps.commitWrite(x, 0, 0, 3, 30);
        Steps.commitWrite(x, 0, 0, 3, 31);
        x.server(2, true);
        Checks.answers(0, () -> x.count(18));
        Checks.answers(2, () -> x.begin(1, 2, 0));
        Checks.answers(2, () -> x.count(18));
        Checks.answers(31, () -> x.get(1, 3));
        // What it sees stays that of its base.
        Steps.commitWrite(x, 0, 0, 3, 32);
        Checks.answers(31, () -> x.get(1, 3));
        Checks.answers(32, () -> x.read(2, 0, 3, 0));
        x.server(2, false);
        Checks.answers(31, () -> x.get(1, 3));
    }

    // Promise 5

    private static void get() {
        GroupStore x = new GroupStore();
        Checks.refuses(Checks.NOT_THERE, () -> x.get(0, 0));
        Steps.commitWrite(x, 0, 0, 5, -7);
        Checks.refuses(Checks.NOT_THERE, () -> x.get(0, 5));
        x.begin(0, 1, 0);
        Checks.answers(-7, () -> x.get(0, 5));
        Checks.refuses(Checks.NOT_THERE, () -> x.get(0, 0));
        x.put(0, 0, 0);
        Checks.answers(0, () -> x.get(0, 0));
        x.put(0, 5, 8);
        Checks.answers(8, () -> x.get(0, 5));
        x.begin(1, 1, 0);
        Checks.answers(-7, () -> x.get(1, 5));
        x.begin(2, 1, 1);
        Checks.refuses(Checks.NOT_THERE, () -> x.get(2, 5));
        for (int[] bad : new int[][] {{-1, 0}, {5, 0}, {0, -1}, {0, 6}}) {
            Checks.refuses(Checks.BAD, () -> x.get(bad[0], bad[1]));
        }
    }

    // Promise 6

    private static void put() {
        GroupStore x = new GroupStore();
        Checks.refuses(Checks.NOT_THERE, () -> x.put(0, 0, 1));
        x.begin(0, 0, 0);
        Checks.goes(() -> x.put(0, 5, Integer.MIN_VALUE));
        Checks.goes(() -> x.put(0, 0, Integer.MAX_VALUE));
        Checks.goes(() -> x.put(0, 0, 3));
        Checks.goes(() -> x.put(0, 2, 4));
        Checks.refuses(Checks.FULL, () -> x.put(0, 3, 5));
        Checks.refuses(Checks.NOT_THERE, () -> x.get(0, 3));
        Checks.goes(() -> x.put(0, 2, 6));
        for (int[] bad : new int[][] {{-1, 0}, {5, 0}, {0, -1}, {0, 6}}) {
            Checks.refuses(Checks.BAD, () -> x.put(bad[0], bad[1], 1));
        }
        Checks.answers(1, () -> x.commit(0));
        Checks.answers(3, () -> x.read(2, 0, 0, 0));
        Checks.answers(6, () -> x.read(2, 0, 2, 0));
        Checks.answers(Integer.MIN_VALUE, () -> x.read(2, 0, 5, 0));
        Checks.refuses(Checks.NOT_THERE, () -> x.read(2, 0, 3, 0));
        Checks.refuses(Checks.NOT_THERE, () -> x.put(0, 0, 1));
    }

    // Promise 7

    private static void send() {
        GroupStore x = new GroupStore();
        Checks.refuses(Checks.NOT_THERE, () -> x.send(0, 0, 1));
        x.begin(0, 0, 0);
        Checks.goes(() -> x.send(0, 3, 5));
        Checks.goes(() -> x.send(0, 3, 6));
        Checks.refuses(Checks.FULL, () -> x.send(0, 0, 7));
        for (int[] bad : new int[][] {{-1, 0}, {5, 0}, {0, -1}, {0, 4}}) {
            Checks.refuses(Checks.BAD, () -> x.send(bad[0], bad[1], 1));
        }
        Checks.answers(0, () -> x.count(2));
        Checks.answers(1, () -> x.commit(0));
        Checks.answers(2, () -> x.count(2));
        Checks.answers(1, () -> x.deliver());
        Checks.answers(5, () -> x.read(0, 3, 5, 0));
        Checks.answers(0, () -> x.deliver());
        Checks.answers(11, () -> x.read(0, 3, 5, 0));
    }

    // Promise 8

    private static void commit() {
        GroupStore x = new GroupStore();
        Checks.refuses(Checks.NOT_THERE, () -> x.commit(0));
        Steps.write(x, 0, 0, 1, 10);
        Steps.write(x, 1, 2, 2, 20);
        Checks.answers(1, () -> x.commit(0));
        Checks.answers(1, () -> x.count(1));
        Checks.refuses(Checks.NOT_THERE, () -> x.commit(0));
        Checks.refuses(Checks.CONFLICT, () -> x.commit(1));
        Checks.refuses(Checks.NOT_THERE, () -> x.commit(1));
        Checks.answers(0, () -> x.count(1));
        Checks.refuses(Checks.NOT_THERE, () -> x.read(2, 0, 2, 0));
        Checks.answers(1, () -> x.count(4));
        Checks.answers(1, () -> x.count(5));
        Checks.answers(2, () -> x.count(6));
        // A message alone is enough for an entry.
        x.begin(2, 1, 1);
        x.send(2, 0, 1);
        Checks.answers(1, () -> x.commit(2));
        Checks.answers(3, () -> x.log(0, 1, 1, 4));
        Checks.refuses(Checks.BAD, () -> x.commit(-1));
        Checks.refuses(Checks.BAD, () -> x.commit(5));
    }

    private static void commitThatIsRefused() {
        GroupStore x = new GroupStore();
        Steps.write(x, 0, 1, 0, 1);
        x.server(1, false);
        Checks.refuses(Checks.NO_MAJORITY, () -> x.commit(0));
        Checks.refuses(Checks.NOT_THERE, () -> x.get(0, 0));
        Checks.answers(0, () -> x.count(6));
        Checks.answers(0, () -> x.count(3));
        x.server(1, true);
        Steps.fill(x, 2);
        Checks.answers(10, () -> x.begin(0, 1, 2));
        x.put(0, 0, 1);
        Checks.refuses(Checks.FULL, () -> x.commit(0));
        Checks.answers(0, () -> x.count(1));
        Checks.answers(10, () -> x.count(6));
        Checks.answers(10, () -> x.count(3));
        Checks.answers(0, () -> x.count(5));
        // A server that is not up comes before a log that is full.
        x.begin(0, 1, 2);
        x.put(0, 0, 1);
        x.server(1, false);
        Checks.refuses(Checks.NO_MAJORITY, () -> x.commit(0));
    }

    private static void commitMadeGoodLater() {
        GroupStore x = new GroupStore();
        x.begin(0, 0, 0);
        x.put(0, 0, 7);
        x.send(0, 1, 3);
        x.lose(0, 6);
        Checks.refuses(Checks.NO_MAJORITY, () -> x.commit(0));
        Checks.answers(0, () -> x.count(1));
        Checks.answers(0, () -> x.count(2));
        Checks.answers(1, () -> x.log(0, 0, 1, 2));
        Checks.answers(0, () -> x.log(0, 0, 1, 3));
        Checks.answers(1, () -> x.catchUp(1, 0));
        Checks.answers(7, () -> x.read(2, 0, 0, 0));
        Checks.answers(1, () -> x.count(2));
        Checks.answers(0, () -> x.count(4));
        Checks.answers(1, () -> x.log(2, 0, 1, 4));
        Checks.answers(2, () -> x.log(2, 0, 1, 1));
        // Another one's commit there brings the lost entry in and is refused.
        GroupStore y = new GroupStore();
        Steps.write(y, 0, 0, 0, 7);
        Steps.write(y, 1, 1, 0, 8);
        y.lose(0, 6);
        Checks.refuses(Checks.NO_MAJORITY, () -> y.commit(0));
        Checks.refuses(Checks.CONFLICT, () -> y.commit(1));
        Checks.answers(7, () -> y.read(2, 0, 0, 0));
        Checks.answers(1, () -> y.count(5));
    }

    // Promise 9

    private static void abort() {
        GroupStore x = new GroupStore();
        Checks.refuses(Checks.NOT_THERE, () -> x.abort(0));
        Steps.write(x, 0, 0, 0, 1);
        Steps.write(x, 1, 0, 0, 2);
        Checks.goes(() -> x.abort(0));
        Checks.answers(1, () -> x.count(1));
        Checks.refuses(Checks.NOT_THERE, () -> x.abort(0));
        Checks.refuses(Checks.NOT_THERE, () -> x.commit(0));
        Checks.answers(0, () -> x.count(6));
        x.server(0, false);
        Checks.goes(() -> x.abort(1));
        Checks.refuses(Checks.BAD, () -> x.abort(-1));
        Checks.refuses(Checks.BAD, () -> x.abort(5));
    }

    // Promise 10

    private static void catchUp() {
        GroupStore x = new GroupStore();
        x.server(2, false);
        Steps.commitWrite(x, 0, 0, 0, 1);
        Steps.commitWrite(x, 0, 0, 0, 2);
        Checks.refuses(Checks.NO_MAJORITY, () -> x.catchUp(2, 0));
        x.server(2, true);
        Checks.answers(2, () -> x.catchUp(2, 0));
        Checks.answers(0, () -> x.catchUp(2, 1));
        Checks.answers(2, () -> x.count(3));
        // What is told by another server changes neither the promise nor what was accepted.
        Steps.logIs(x, 2, 0, 1, "0 0 0 1 1");
        for (int[] bad : new int[][] {{-1, 0}, {3, 0}, {0, -1}, {0, 4}}) {
            Checks.refuses(Checks.BAD, () -> x.catchUp(bad[0], bad[1]));
        }
        // An entry that only a server that is down has accepted: the empty one takes its place.
        Steps.write(x, 0, 0, 4, 44);
        x.lose(0, 6);
        Checks.refuses(Checks.NO_MAJORITY, () -> x.commit(0));
        x.server(0, false);
        Checks.answers(3, () -> x.catchUp(1, 0));
        Checks.answers(0, () -> x.log(1, 0, 3, 4));
        Checks.answers(1, () -> x.log(1, 0, 3, 3));
        Checks.answers(2, () -> x.log(1, 0, 3, 1));
        Checks.answers(0, () -> x.log(1, 0, 3, 2));
        Checks.answers(3, () -> x.count(6));
        x.server(0, true);
        Checks.answers(3, () -> x.log(0, 0, 3, 2));
        Checks.answers(3, () -> x.catchUp(0, 0));
        Checks.answers(0, () -> x.log(0, 0, 3, 4));
        Checks.refuses(Checks.NOT_THERE, () -> x.read(0, 0, 4, 0));
    }

    private static void catchUpClosesGaps() {
        GroupStore x = new GroupStore();
        x.server(2, false);
        Steps.commitWrite(x, 0, 0, 0, 1);
        x.server(2, true);
        Steps.commitWrite(x, 0, 0, 0, 2);
        Checks.answers(1, () -> x.log(2, 0, 2, 3));
        Checks.answers(0, () -> x.count(18));
        Checks.refuses(Checks.NOT_THERE, () -> x.read(2, 0, 0, 0));
        Checks.refuses(Checks.NOT_THERE, () -> x.read(2, 0, 0, 2));
        Checks.answers(2, () -> x.catchUp(2, 0));
        Checks.answers(2, () -> x.read(2, 0, 0, 0));
        Checks.answers(1, () -> x.read(2, 0, 0, 1));
        Checks.answers(2, () -> x.count(3));
        // A round of another server that reaches the gap closes it as well.
        GroupStore y = new GroupStore();
        Steps.write(y, 0, 1, 0, 9);
        y.server(2, false);
        Steps.commitWrite(y, 0, 0, 0, 1);
        y.server(2, true);
        Steps.commitWrite(y, 0, 0, 0, 2);
        Checks.answers(0, () -> y.count(18));
        Checks.refuses(Checks.CONFLICT, () -> y.commit(0));
        Checks.answers(2, () -> y.count(18));
    }

    private static void catchUpAsksOnlyServersThatAreUp() {
        GroupStore x = new GroupStore();
        x.lose(0, 4);
        Steps.commitWrite(x, 0, 0, 0, 1);
        x.server(0, false);
        x.server(1, false);
        Checks.refuses(Checks.NO_MAJORITY, () -> x.catchUp(2, 0));
        Checks.answers(0, () -> x.count(18));
        x.server(1, true);
        Checks.answers(1, () -> x.catchUp(2, 0));
        Checks.answers(2, () -> x.count(3));
    }

    private static void catchUpStopsHalfWay() {
        GroupStore x = new GroupStore();
        x.server(2, false);
        Steps.commitWrite(x, 0, 0, 0, 1);
        x.begin(0, 0, 0);
        x.put(0, 0, 2);
        x.lose(0, 6);
        Checks.refuses(Checks.NO_MAJORITY, () -> x.commit(0));
        x.server(2, true);
        x.lose(3, 0);
        Checks.refuses(Checks.NO_MAJORITY, () -> x.catchUp(2, 0));
        Checks.answers(1, () -> x.count(18));
        Checks.answers(1, () -> x.read(2, 0, 0, 0));
        Checks.answers(3, () -> x.log(2, 0, 2, 0));
        Checks.answers(2, () -> x.catchUp(2, 0));
        Checks.answers(2, () -> x.read(2, 0, 0, 0));
        Checks.answers(7, () -> x.log(2, 0, 2, 1));
    }

    // Promise 11

    private static void read() {
        GroupStore x = new GroupStore();
        Steps.commitWrite(x, 0, 0, 0, 1);
        Steps.commitWrite(x, 0, 0, 1, 5);
        Steps.commitWrite(x, 0, 0, 0, 3);
        x.server(1, false);
        Checks.answers(3, () -> x.read(1, 0, 0, 0));
        Checks.answers(3, () -> x.read(1, 0, 0, 3));
        Checks.answers(1, () -> x.read(1, 0, 0, 2));
        Checks.answers(1, () -> x.read(1, 0, 0, 1));
        Checks.refuses(Checks.NOT_THERE, () -> x.read(1, 0, 1, 1));
        Checks.answers(5, () -> x.read(1, 0, 1, 2));
        Checks.refuses(Checks.NOT_THERE, () -> x.read(1, 0, 0, 4));
        Checks.refuses(Checks.NOT_THERE, () -> x.read(1, 0, 0, 10));
        Checks.refuses(Checks.NOT_THERE, () -> x.read(1, 0, 2, 0));
        Checks.refuses(Checks.NOT_THERE, () -> x.read(1, 1, 0, 0));
        int[][] bads = {{-1, 0, 0, 0}, {3, 0, 0, 0}, {0, -1, 0, 0}, {0, 4, 0, 0}, {0, 0, -1, 0}, {0, 0, 6, 0},
            {0, 0, 0, -1}, {0, 0, 0, 11}};
        for (int[] bad : bads) {
            Checks.refuses(Checks.BAD, () -> x.read(bad[0], bad[1], bad[2], bad[3]));
        }
        Steps.fill(x, 2);
        Checks.answers(10, () -> x.read(0, 2, 0, 10));
        Checks.answers(10, () -> x.read(0, 2, 0, 0));
    }

    // Promise 12

    private static void deliver() {
        GroupStore x = new GroupStore();
        Checks.refuses(Checks.NOT_THERE, () -> x.deliver());
        x.begin(0, 1, 0);
        x.send(0, 1, Integer.MAX_VALUE);
        x.send(0, 0, 4);
        x.commit(0);
        x.begin(0, 2, 3);
        x.send(0, 1, 2);
        x.commit(0);
        Checks.answers(3, () -> x.count(2));
        Checks.answers(2, () -> x.deliver());
        Checks.answers(Integer.MAX_VALUE, () -> x.read(2, 1, 5, 0));
        Checks.answers(3, () -> x.log(1, 1, 1, 4));
        Checks.answers(1, () -> x.log(1, 1, 1, 1));
        Checks.answers(1, () -> x.deliver());
        Checks.answers(4, () -> x.read(1, 0, 5, 0));
        Checks.answers(2, () -> x.count(10));
        Checks.answers(0, () -> x.deliver());
        Checks.answers(Integer.MIN_VALUE + 1, () -> x.read(0, 1, 5, 0));
        Checks.answers(3, () -> x.count(7));
        Checks.answers(2, () -> x.count(4));
        Checks.answers(5, () -> x.count(6));
        Checks.answers(5, () -> x.count(3));
        Checks.refuses(Checks.NOT_THERE, () -> x.deliver());
        // A value of key 5 that a transaction wrote is added to.
        Steps.commitWrite(x, 0, 2, 5, 100);
        x.begin(1, 0, 1);
        x.send(1, 2, -1);
        x.commit(1);
        x.server(0, false);
        Checks.answers(0, () -> x.deliver());
        Checks.answers(99, () -> x.read(1, 2, 5, 0));
        // Server 0 is not up, so server 1 ran it: its ballot tells.
        Checks.answers(2, () -> x.log(1, 2, 2, 1));
    }

    private static void deliverThatIsRefused() {
        GroupStore x = new GroupStore();
        Steps.commitMessage(x, 0, 1, 5);
        x.server(0, false);
        x.server(1, false);
        x.server(2, false);
        Checks.refuses(Checks.NO_MAJORITY, () -> x.deliver());
        Checks.answers(1, () -> x.count(6));
        x.server(2, true);
        Checks.refuses(Checks.NO_MAJORITY, () -> x.deliver());
        Checks.answers(2, () -> x.count(6));
        Checks.answers(2, () -> x.count(3));
        Checks.answers(3, () -> x.log(2, 1, 1, 0));
        Checks.answers(1, () -> x.count(2));
        x.server(0, true);
        // The accepted entry of a lost round comes to be chosen, and then the message is delivered once more.
        x.lose(0, 4);
        Checks.refuses(Checks.NO_MAJORITY, () -> x.deliver());
        Checks.answers(0, () -> x.count(7));
        Checks.answers(0, () -> x.deliver());
        Checks.answers(5, () -> x.read(0, 1, 5, 1));
        Checks.answers(10, () -> x.read(0, 1, 5, 2));
        Checks.answers(3, () -> x.log(0, 1, 1, 4));
        Checks.answers(4, () -> x.log(0, 1, 2, 4));
        Checks.answers(1, () -> x.count(7));
        Steps.fill(x, 3);
        Steps.commitMessage(x, 0, 3, 5);
        Steps.commitMessage(x, 0, 1, 5);
        int given = x.count(6);
        Checks.refuses(Checks.FULL, () -> x.deliver());
        Checks.refuses(Checks.FULL, () -> x.deliver());
        Checks.answers(given + 2, () -> x.count(6));
        Checks.answers(2, () -> x.count(2));
        Checks.answers(0, () -> x.count(5));
    }

    private static void deliverCatchesUpFirst() {
        GroupStore x = new GroupStore();
        Steps.commitMessage(x, 2, 1, 5);
        x.server(0, false);
        Steps.commitWrite(x, 1, 1, 5, 20);
        x.begin(0, 1, 1);
        x.put(0, 5, 30);
        x.send(0, 3, 1);
        x.lose(0, 4);
        Checks.refuses(Checks.NO_MAJORITY, () -> x.commit(0));
        x.server(0, true);
        // Position 1 is told, position 2 is made good by a round and brings its message, position 3 is the delivery.
        int before = x.count(3);
        Checks.answers(1, () -> x.deliver());
        Checks.answers(before + 2, () -> x.count(3));
        Checks.answers(30, () -> x.read(0, 1, 5, 2));
        Checks.answers(35, () -> x.read(0, 1, 5, 3));
        Checks.answers(4, () -> x.log(0, 1, 3, 4));
        Checks.answers(0, () -> x.deliver());
        Checks.answers(1, () -> x.read(0, 3, 5, 0));
        // The loss falls on the round of the catching up, which ends it all.
        GroupStore y = new GroupStore();
        Steps.commitMessage(y, 0, 1, 5);
        Steps.write(y, 0, 1, 1, 0, 1);
        y.lose(0, 5);
        Checks.refuses(Checks.NO_MAJORITY, () -> y.commit(0));
        y.lose(6, 0);
        Checks.refuses(Checks.NO_MAJORITY, () -> y.deliver());
        Checks.answers(3, () -> y.count(6));
        Checks.answers(3, () -> y.count(3));
        Checks.answers(2, () -> y.count(8));
        Checks.answers(1, () -> y.count(2));
        Checks.answers(0, () -> y.deliver());
        Checks.answers(5, () -> y.read(0, 1, 5, 2));
    }

    private static void queueTakesAPositionOnce() {
        GroupStore x = new GroupStore();
        x.begin(0, 0, 0);
        x.send(0, 1, 1);
        x.send(0, 2, 2);
        x.server(2, false);
        x.commit(0);
        Checks.answers(2, () -> x.count(2));
        x.server(2, true);
        x.catchUp(2, 0);
        Checks.answers(2, () -> x.count(2));
        // Of those reached server 1 alone knows the position: that round tells server 2 and adds no message.
        GroupStore y = new GroupStore();
        y.begin(0, 0, 0);
        y.begin(1, 2, 0);
        y.send(0, 1, 1);
        y.put(1, 0, 1);
        y.lose(0, 4);
        y.commit(0);
        y.server(0, false);
        Checks.refuses(Checks.CONFLICT, () -> y.commit(1));
        Checks.answers(1, () -> y.log(2, 0, 1, 4));
        Checks.answers(1, () -> y.count(2));
    }

    // Promise 13

    private static void log() {
        GroupStore x = new GroupStore();
        Steps.write(x, 0, 1, 0, 1);
        x.lose(1, 5);
        Checks.refuses(Checks.NO_MAJORITY, () -> x.commit(0));
        Steps.logIs(x, 0, 0, 1, "0 0 0 0 0");
        Steps.logIs(x, 1, 0, 1, "2 2 1 0 0");
        Steps.logIs(x, 2, 0, 1, "2 0 0 0 0");
        Checks.answers(1, () -> x.catchUp(2, 0));
        Steps.logIs(x, 0, 0, 1, "3 3 1 1 1");
        Steps.logIs(x, 1, 0, 1, "3 3 1 1 1");
        Steps.logIs(x, 2, 0, 1, "3 3 1 1 1");
        Steps.logIs(x, 0, 0, 2, "0 0 0 0 0");
        Steps.logIs(x, 0, 1, 1, "0 0 0 0 0");
        int[][] bads = {{-1, 0, 1, 0}, {3, 0, 1, 0}, {0, -1, 1, 0}, {0, 4, 1, 0}, {0, 0, 0, 0}, {0, 0, 11, 0},
            {0, 0, Integer.MIN_VALUE, 0}, {0, 0, 1, -1}, {0, 0, 1, 5}};
        for (int[] bad : bads) {
            Checks.refuses(Checks.BAD, () -> x.log(bad[0], bad[1], bad[2], bad[3]));
        }
        Checks.answers(0, () -> x.log(2, 3, 10, 4));
    }

    private static void ballots() {
        GroupStore x = new GroupStore();
        // Server 2's promise of 3 counts although it is not up: server 0's least ballot above it is 5.
        Steps.write(x, 0, 2, 0, 1);
        x.lose(3, 0);
        Checks.refuses(Checks.NO_MAJORITY, () -> x.commit(0));
        Steps.logIs(x, 2, 0, 1, "3 0 0 0 0");
        x.server(2, false);
        Steps.write(x, 0, 0, 0, 1);
        Steps.write(x, 1, 1, 0, 1);
        x.lose(6, 0);
        Checks.refuses(Checks.NO_MAJORITY, () -> x.commit(0));
        Steps.logIs(x, 0, 0, 1, "5 0 0 0 0");
        // Server 1 after server 0 stays in the same step, server 0 after itself goes to the next.
        x.lose(5, 0);
        Checks.refuses(Checks.NO_MAJORITY, () -> x.commit(1));
        Steps.logIs(x, 1, 0, 1, "6 0 0 0 0");
        Steps.write(x, 0, 0, 0, 1);
        Checks.answers(1, () -> x.commit(0));
        Steps.logIs(x, 0, 0, 1, "9 9 4 1 4");
        Steps.logIs(x, 2, 0, 1, "3 0 0 0 0");
    }

    private static void greatestBallotWins() {
        GroupStore x = new GroupStore();
        Steps.write(x, 0, 0, 0, 1);
        Steps.write(x, 1, 1, 0, 2);
        Steps.write(x, 2, 2, 0, 3);
        x.lose(0, 6);
        Checks.refuses(Checks.NO_MAJORITY, () -> x.commit(0));
        // Server 0 is not reached in the first half, so its entry is not seen.
        x.lose(1, 5);
        Checks.refuses(Checks.NO_MAJORITY, () -> x.commit(1));
        Steps.logIs(x, 0, 0, 1, "1 1 1 0 0");
        Steps.logIs(x, 1, 0, 1, "2 2 2 0 0");
        Checks.refuses(Checks.CONFLICT, () -> x.commit(2));
        Steps.logIs(x, 0, 0, 1, "3 3 2 1 2");
        Steps.logIs(x, 2, 0, 1, "3 3 2 1 2");
        // The same with the greatest ballot at the least server.
        GroupStore v = new GroupStore();
        Steps.write(v, 0, 0, 0, 1);
        Steps.write(v, 1, 1, 0, 2);
        Steps.write(v, 2, 2, 0, 3);
        v.lose(0, 5);
        Checks.refuses(Checks.NO_MAJORITY, () -> v.commit(1));
        v.lose(2, 6);
        Checks.refuses(Checks.NO_MAJORITY, () -> v.commit(0));
        Steps.logIs(v, 0, 0, 1, "5 5 2 0 0");
        Checks.refuses(Checks.CONFLICT, () -> v.commit(2));
        Steps.logIs(v, 1, 0, 1, "7 7 2 1 2");
        // What is known as chosen goes before what is accepted.
        GroupStore y = new GroupStore();
        Steps.write(y, 0, 0, 0, 1);
        Steps.write(y, 1, 1, 0, 2);
        Steps.write(y, 2, 0, 0, 3);
        y.lose(0, 6);
        Checks.refuses(Checks.NO_MAJORITY, () -> y.commit(0));
        y.lose(1, 1);
        Checks.answers(1, () -> y.commit(1));
        Checks.refuses(Checks.CONFLICT, () -> y.commit(2));
        Steps.logIs(y, 0, 0, 1, "5 5 2 1 2");
        // An empty entry that was accepted is one too.
        GroupStore z = new GroupStore();
        Steps.write(z, 0, 0, 0, 1);
        Steps.write(z, 1, 2, 0, 2);
        z.lose(0, 6);
        Checks.refuses(Checks.NO_MAJORITY, () -> z.commit(0));
        z.server(0, false);
        z.lose(0, 4);
        Checks.refuses(Checks.NO_MAJORITY, () -> z.catchUp(1, 0));
        Steps.logIs(z, 1, 0, 1, "2 2 0 0 0");
        Checks.refuses(Checks.CONFLICT, () -> z.commit(1));
        Steps.logIs(z, 2, 0, 1, "3 3 0 1 0");
    }

    // Promise 14

    private static void count() {
        GroupStore x = new GroupStore();
        for (int what : new int[] {-1, 9, 22, Integer.MIN_VALUE, Integer.MAX_VALUE}) {
            Checks.answers(-1, () -> x.count(what));
        }
        x.server(1, false);
        Steps.commitWrite(x, 2, 3, 0, 1);
        Steps.commitMessage(x, 0, 3, 2);
        x.server(1, true);
        Checks.answers(1, () -> x.count(13));
        Checks.answers(0, () -> x.count(17));
        Checks.answers(1, () -> x.count(21));
        Checks.answers(1, () -> x.count(10));
        Checks.answers(0, () -> x.count(14));
        Checks.answers(1, () -> x.count(18));
        Steps.write(x, 0, 0, 0, 1);
        Steps.write(x, 1, 0, 0, 1);
        Checks.answers(2, () -> x.count(1));
        x.commit(0);
        Checks.refuses(Checks.CONFLICT, () -> x.commit(1));
        Checks.answers(0, () -> x.deliver());
        int[] due = {3, 0, 0, 5, 3, 1, 5, 1, 0};
        for (int what = 0; what < due.length; what++) {
            int which = what;
            Checks.answers(due[which], () -> x.count(which));
        }
    }

    private static void noMajoritiesAreCounted() {
        GroupStore x = new GroupStore();
        Steps.commitMessage(x, 0, 1, 1);
        Steps.write(x, 0, 0, 0, 1);
        x.server(0, false);
        Checks.refuses(Checks.NO_MAJORITY, () -> x.begin(1, 0, 0));
        Checks.answers(1, () -> x.count(8));
        Checks.refuses(Checks.NO_MAJORITY, () -> x.catchUp(0, 0));
        Checks.answers(2, () -> x.count(8));
        Checks.refuses(Checks.NO_MAJORITY, () -> x.commit(0));
        Checks.answers(3, () -> x.count(8));
        x.server(1, false);
        Checks.refuses(Checks.NO_MAJORITY, () -> x.deliver());
        Checks.answers(4, () -> x.count(8));
        x.server(2, false);
        Checks.refuses(Checks.NO_MAJORITY, () -> x.deliver());
        Checks.answers(5, () -> x.count(8));
        Checks.refuses(Checks.NOT_THERE, () -> x.read(0, 0, 0, 0));
        Checks.refuses(Checks.BAD, () -> x.commit(9));
        Checks.answers(5, () -> x.count(8));
    }

    // Promise 15

    private static void beginWithoutMajorityKeepsTheOldOne() {
        GroupStore x = new GroupStore();
        Steps.write(x, 0, 0, 0, 1);
        Steps.write(x, 1, 0, 0, 2);
        x.lose(0, 6);
        Checks.refuses(Checks.NO_MAJORITY, () -> x.commit(1));
        x.begin(2, 2, 1);
        x.put(2, 3, 33);
        x.lose(3, 0);
        Checks.refuses(Checks.NO_MAJORITY, () -> x.begin(2, 2, 0));
        Checks.answers(33, () -> x.get(2, 3));
        x.server(0, false);
        Checks.refuses(Checks.NO_MAJORITY, () -> x.begin(2, 0, 0));
        Checks.answers(33, () -> x.get(2, 3));
        Checks.answers(2, () -> x.count(1));
        Checks.answers(1, () -> x.commit(2));
        Checks.answers(33, () -> x.read(1, 1, 3, 0));
        Checks.answers(1, () -> x.begin(2, 1, 0));
    }

    private static void emptyCommit() {
        GroupStore x = new GroupStore();
        Steps.commitWrite(x, 0, 0, 0, 1);
        x.begin(0, 1, 0);
        x.server(1, false);
        Checks.answers(0, () -> x.commit(0));
        Checks.refuses(Checks.NOT_THERE, () -> x.commit(0));
        Checks.answers(1, () -> x.count(4));
        Checks.answers(1, () -> x.count(6));
        Checks.answers(1, () -> x.count(3));
        Checks.answers(0, () -> x.count(8));
        Steps.fill(x, 3);
        Checks.answers(10, () -> x.begin(0, 0, 3));
        Checks.answers(0, () -> x.commit(0));
    }

    private static void badNumbersComeFirst() {
        GroupStore x = new GroupStore();
        x.server(0, false);
        Checks.refuses(Checks.BAD, () -> x.begin(0, 0, 4));
        Checks.refuses(Checks.BAD, () -> x.catchUp(0, 4));
        Checks.refuses(Checks.BAD, () -> x.get(0, 6));
        Checks.refuses(Checks.BAD, () -> x.put(0, 6, 0));
        Checks.refuses(Checks.BAD, () -> x.send(0, 4, 0));
        Checks.refuses(Checks.BAD, () -> x.read(0, 0, 0, 11));
        Checks.answers(0, () -> x.count(8));
        x.begin(0, 1, 0);
        x.put(0, 0, 1);
        x.put(0, 1, 1);
        x.put(0, 2, 1);
        x.send(0, 0, 1);
        x.send(0, 0, 1);
        Checks.refuses(Checks.BAD, () -> x.put(0, 6, 0));
        Checks.refuses(Checks.BAD, () -> x.send(0, 4, 0));
    }
}
