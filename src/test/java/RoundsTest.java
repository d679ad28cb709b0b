/** The boundary cases that "LOSS" and "A ROUND" name. */
public final class RoundsTest {
    private RoundsTest() {
    }

    public static void main(String[] args) {
        loss();
        ballots();
        firstHalf();
        proposals();
        secondHalf();
        Checks.finish();
    }

    private static void loss() {
        Checks.sentence("LOSS: for the next ROUND alone (0 then), the first mask", RoundsTest::firstMaskIsUsedUp);
        Checks.sentence("LOSS: for the next ROUND alone (0 then), the second mask", RoundsTest::secondMaskIsUsedUp);
        Checks.sentence("LOSS: for the next ROUND alone, also if it ends in its first half",
                RoundsTest::bothMasksAreUsedUpInTheFirstHalf);
        Checks.sentence("LOSS: for the next ROUND, not for a call that runs none", RoundsTest::lossWaitsForARound);
        Checks.sentence("lose: Sets LOSS: the later masks stand alone", RoundsTest::laterMasksReplace);
        Checks.sentence("those that are not REACHED in its first and second half", RoundsTest::masksAreForTheirHalf);
        Checks.sentence("A server is REACHED if it's UP and not in the mask; a ROUND for a new position",
                RoundsTest::everyFirstRound);
        Checks.sentence("the server that runs the ROUND always (is REACHED)", RoundsTest::runnerIsReached);
    }

    private static void firstMaskIsUsedUp() {
        GroupStore x = new GroupStore();
        x.lose(6, 0);
        Steps.write(x, 0, 0, 0, 1);
        Checks.refuses(Checks.NO_MAJORITY, () -> x.commit(0));
        Steps.write(x, 0, 0, 0, 1);
        Checks.answers(1, () -> x.commit(0));
        for (int s = 0; s < 3; s++) {
            Steps.logIs(x, s, 0, 1, "5 5 2 1 2");
        }
    }

    private static void secondMaskIsUsedUp() {
        GroupStore x = new GroupStore();
        x.lose(0, 4);
        Steps.commitWrite(x, 0, 0, 0, 1);
        Steps.logIs(x, 2, 0, 1, "1 0 0 0 0");
        Steps.commitWrite(x, 0, 0, 0, 2);
        Steps.logIs(x, 2, 0, 2, "1 1 2 1 2");
    }

    private static void bothMasksAreUsedUpInTheFirstHalf() {
        GroupStore x = new GroupStore();
        x.lose(6, 6);
        Steps.write(x, 0, 0, 0, 1);
        Checks.refuses(Checks.NO_MAJORITY, () -> x.commit(0));
        Steps.commitWrite(x, 0, 0, 0, 1);
        for (int s = 0; s < 3; s++) {
            Steps.logIs(x, s, 0, 1, "5 5 2 1 2");
        }
    }

    private static void lossWaitsForARound() {
        lossStaysAfter(x -> x.begin(0, 0, 2));
        lossStaysAfter(x -> x.begin(1, 2, 1));
        lossStaysAfter(x -> x.catchUp(0, 2));
        lossStaysAfter(x -> x.catchUp(2, 1));
        lossStaysAfter(x -> x.get(0, 0));
        lossStaysAfter(x -> x.put(0, 0, 5));
        lossStaysAfter(x -> x.send(0, 0, 5));
        lossStaysAfter(x -> x.abort(0));
        lossStaysAfter(x -> x.server(2, false));
        lossStaysAfter(x -> x.read(0, 1, 0, 0));
        lossStaysAfter(x -> x.log(0, 0, 1, 0));
        lossStaysAfter(x -> x.count(3));
        lossStaysAfter(x -> Checks.answers(0, () -> x.commit(1)));
        lossStaysAfter(x -> Checks.refuses(Checks.FULL, () -> x.commit(2)));
        lossStaysAfter(x -> Checks.refuses(Checks.FULL, () -> x.deliver()));
        lossStaysAfter(x -> Checks.refuses(Checks.BAD, () -> x.lose(0, 8)));
        lossStaysAfter(x -> Checks.refuses(Checks.BAD, () -> x.lose(-1, 0)));
        lossStaysAfter(x -> Checks.refuses(Checks.NOT_THERE, () -> x.commit(4)));
        lossStaysAfter(x -> {
            x.server(0, false);
            Checks.refuses(Checks.NO_MAJORITY, () -> x.commit(0));
            Checks.refuses(Checks.NO_MAJORITY, () -> x.begin(4, 0, 0));
            Checks.refuses(Checks.NO_MAJORITY, () -> x.catchUp(0, 0));
            x.server(0, true);
        });
        lossStaysAfter(x -> {
            Steps.onlyUp(x, 0);
            Checks.refuses(Checks.NO_MAJORITY, () -> x.deliver());
            Steps.onlyUp(x, 7);
        });
        GroupStore y = new GroupStore();
        y.lose(6, 0);
        Checks.refuses(Checks.NOT_THERE, () -> y.deliver());
        Steps.write(y, 0, 0, 0, 1);
        Checks.refuses(Checks.NO_MAJORITY, () -> y.commit(0));
    }

    /** In group 1 server 2 is behind, group 3 is full, and the first of the queue goes there. */
    private static void lossStaysAfter(Run call) {
        GroupStore x = new GroupStore();
        Steps.fill(x, 3);
        Steps.commitMessage(x, 0, 3, 1);
        x.lose(0, 4);
        Steps.commitWrite(x, 0, 1, 0, 1);
        Steps.write(x, 0, 0, 0, 1);
        x.begin(1, 0, 0);
        Steps.write(x, 2, 0, 3, 0, 1);
        Steps.write(x, 3, 0, 2, 0, 1);
        int rounds = x.count(3);
        x.lose(6, 1);
        call.on(x);
        Checks.answers(rounds, () -> x.count(3));
        Checks.refuses(Checks.NO_MAJORITY, () -> x.commit(3));
        Steps.logIs(x, 0, 2, 1, "1 0 0 0 0");
        Steps.logIs(x, 1, 2, 1, "0 0 0 0 0");
    }

    private static void laterMasksReplace() {
        GroupStore x = new GroupStore();
        Steps.write(x, 0, 0, 0, 1);
        x.lose(7, 7);
        x.lose(2, 4);
        Checks.answers(1, () -> x.commit(0));
        Steps.logIs(x, 1, 0, 1, "1 1 1 1 1");
        Steps.logIs(x, 2, 0, 1, "1 0 0 0 0");
        Steps.write(x, 0, 0, 0, 1);
        x.lose(7, 7);
        x.lose(0, 0);
        Checks.answers(2, () -> x.commit(0));
    }

    private static void masksAreForTheirHalf() {
        GroupStore x = new GroupStore();
        x.lose(6, 0);
        Steps.write(x, 0, 0, 0, 1);
        Checks.refuses(Checks.NO_MAJORITY, () -> x.commit(0));
        Steps.logIs(x, 0, 0, 1, "1 0 0 0 0");
        GroupStore y = new GroupStore();
        y.lose(0, 6);
        Steps.write(y, 0, 0, 0, 1);
        Checks.refuses(Checks.NO_MAJORITY, () -> y.commit(0));
        Steps.logIs(y, 0, 0, 1, "1 1 1 0 0");
        Steps.logIs(y, 1, 0, 1, "1 0 0 0 0");
        Steps.logIs(y, 2, 0, 1, "1 0 0 0 0");
    }

    private static void everyFirstRound() {
        for (int runner = 0; runner < 3; runner++) {
            for (int up = 0; up < 8; up++) {
                for (int masks = 0; masks < 64; masks++) {
                    if ((up >> runner & 1) != 0) {
                        firstRound(runner, up, masks / 8, masks % 8);
                    }
                }
            }
        }
    }

    private static void firstRound(int runner, int up, int first, int second) {
        GroupStore x = new GroupStore();
        Steps.write(x, 0, runner, 0, 7);
        Steps.onlyUp(x, up);
        x.lose(first, second);
        int promised = 1 << runner | up & ~first;
        int accepted = Integer.bitCount(promised) < 2 ? 0 : 1 << runner | up & ~second;
        boolean chosen = Integer.bitCount(accepted) >= 2;
        if (chosen) {
            Checks.answers(1, () -> x.commit(0));
        } else {
            Checks.refuses(Checks.NO_MAJORITY, () -> x.commit(0));
        }
        for (int s = 0; s < 3; s++) {
            boolean accepts = (accepted >> s & 1) != 0;
            int promise = accepts || (promised >> s & 1) != 0 ? runner + 1 : 0;
            String rest = !accepts ? " 0 0 0 0" : " " + (runner + 1) + " 1 " + (chosen ? "1 1" : "0 0");
            Steps.logIs(x, s, 0, 1, promise + rest);
        }
        Checks.answers(1, () -> x.count(3));
        Checks.answers(chosen ? 0 : 1, () -> x.count(8));
    }

    private static void runnerIsReached() {
        for (int s = 0; s < 3; s++) {
            int runner = s;
            GroupStore x = new GroupStore();
            Steps.write(x, 0, runner, 0, 1);
            x.lose(1 << runner, 1 << runner);
            Checks.answers(1, () -> x.commit(0));
            Steps.logIs(x, runner, 0, 1, (runner + 1) + " " + (runner + 1) + " 1 1 1");
            GroupStore y = new GroupStore();
            Steps.write(y, 0, runner, 0, 1);
            y.lose(7, 0);
            Checks.refuses(Checks.NO_MAJORITY, () -> y.commit(0));
            Steps.logIs(y, runner, 0, 1, (runner + 1) + " 0 0 0 0");
            GroupStore z = new GroupStore();
            Steps.write(z, 0, runner, 0, 1);
            z.lose(0, 7);
            Checks.refuses(Checks.NO_MAJORITY, () -> z.commit(0));
            Steps.logIs(z, runner, 0, 1, (runner + 1) + " " + (runner + 1) + " 1 0 0");
        }
    }

    private static void ballots() {
        Checks.sentence("its ballot is 4 * n + s + 1, n the least with which this is above every PROMISE",
                () -> everyBallotAfterOnePromise(true));
        Checks.sentence("above every PROMISE of the three servers (also of those that are not UP)",
                () -> everyBallotAfterOnePromise(false));
        Checks.sentence("every PROMISE of the three servers: the greatest of them counts",
                RoundsTest::greatestPromiseCounts);
        Checks.sentence("every PROMISE for that position", RoundsTest::otherPromisesDoNotCount);
    }

    private static void everyBallotAfterOnePromise(boolean stillUp) {
        for (int promiser = 0; promiser < 3; promiser++) {
            for (int lost = 1; lost <= 3; lost++) {
                for (int runner = 0; runner < 3; runner++) {
                    if (stillUp || runner != promiser) {
                        ballotAfter(promiser, lost, runner, stillUp);
                    }
                }
            }
        }
    }

    /** The promiser's rounds reach no other server, so it alone has promised. */
    private static void ballotAfter(int promiser, int lost, int runner, boolean stillUp) {
        GroupStore x = new GroupStore();
        for (int i = 0; i < lost; i++) {
            Steps.write(x, 0, promiser, 0, 1);
            x.lose(7, 0);
            Checks.refuses(Checks.NO_MAJORITY, () -> x.commit(0));
        }
        int promise = 4 * (lost - 1) + promiser + 1;
        Checks.answers(promise, () -> x.log(promiser, 0, 1, 0));
        x.server(promiser, stillUp);
        Steps.write(x, 0, runner, 0, 1);
        Checks.answers(1, () -> x.commit(0));
        int due = runner + 1;
        while (due <= promise) {
            due += 4;
        }
        int ballot = due;
        Checks.answers(ballot, () -> x.log(runner, 0, 1, 1));
        Checks.answers(stillUp ? ballot : promise, () -> x.log(promiser, 0, 1, 0));
    }

    private static void greatestPromiseCounts() {
        int[][] orders = {{0, 1, 2}, {0, 2, 1}, {1, 0, 2}, {1, 2, 0}, {2, 0, 1}, {2, 1, 0}};
        String[] due = {"1 2 3", "1 6 3", "5 2 7", "5 2 3", "5 6 3", "9 6 3"};
        for (int i = 0; i < orders.length; i++) {
            GroupStore x = new GroupStore();
            for (int s : orders[i]) {
                Steps.write(x, 0, s, 0, 1);
                x.lose(7, 0);
                Checks.refuses(Checks.NO_MAJORITY, () -> x.commit(0));
            }
            Checks.same(due[i], x.log(0, 0, 1, 0) + " " + x.log(1, 0, 1, 0) + " " + x.log(2, 0, 1, 0));
        }
    }

    private static void otherPromisesDoNotCount() {
        GroupStore x = new GroupStore();
        for (int i = 0; i < 3; i++) {
            Steps.write(x, 0, 2, 0, 1);
            x.lose(7, 0);
            Checks.refuses(Checks.NO_MAJORITY, () -> x.commit(0));
        }
        Steps.commitWrite(x, 2, 0, 0, 1);
        Steps.logIs(x, 2, 0, 1, "15 15 4 1 4");
        Steps.commitWrite(x, 1, 0, 0, 1);
        Steps.logIs(x, 2, 0, 2, "2 2 5 1 5");
        Steps.commitWrite(x, 1, 1, 0, 1);
        Steps.logIs(x, 2, 1, 1, "2 2 6 1 6");
    }

    private static void firstHalf() {
        Checks.sentence("each REACHED server whose PROMISE is below it makes it its PROMISE",
                RoundsTest::reachedServersPromise);
        Checks.sentence("First half, fewer than two REACHED: NO MAJORITY; the PROMISE made before stays",
                RoundsTest::oneReachedInTheFirstHalf);
        Checks.sentence("First half: two REACHED are enough", RoundsTest::twoReachedInTheFirstHalf);
    }

    private static void reachedServersPromise() {
        GroupStore x = new GroupStore();
        Steps.write(x, 0, 0, 0, 1);
        Steps.write(x, 1, 1, 0, 1);
        x.lose(4, 7);
        Checks.refuses(Checks.NO_MAJORITY, () -> x.commit(0));
        Steps.logIs(x, 0, 0, 1, "1 1 1 0 0");
        Steps.logIs(x, 1, 0, 1, "1 0 0 0 0");
        Steps.logIs(x, 2, 0, 1, "0 0 0 0 0");
        x.lose(1, 7);
        Checks.refuses(Checks.NO_MAJORITY, () -> x.commit(1));
        Steps.logIs(x, 0, 0, 1, "1 1 1 0 0");
        Steps.logIs(x, 1, 0, 1, "2 2 2 0 0");
        Steps.logIs(x, 2, 0, 1, "2 0 0 0 0");
    }

    private static void oneReachedInTheFirstHalf() {
        String[] due = {"count 1: 1 -> 0", "count 3: 0 -> 1", "count 6: 0 -> 1", "count 8: 0 -> 1",
            "get 0 3: 7 -> none", "log 1 0 1: 0 0 0 0 0 -> 2 0 0 0 0"};
        Run lost = x -> {
            Steps.write(x, 0, 1, 3, 7);
            x.lose(5, 0);
        };
        GroupStore x = new GroupStore();
        lost.on(x);
        Checks.refuses(Checks.NO_MAJORITY, () -> x.commit(0));
        Look.changes(lost, y -> y.commit(0), due);
        Run alone = y -> {
            Steps.write(y, 0, 1, 3, 7);
            Steps.onlyUp(y, 2);
        };
        GroupStore z = new GroupStore();
        alone.on(z);
        Checks.refuses(Checks.NO_MAJORITY, () -> z.commit(0));
        Look.changes(alone, y -> y.commit(0), due);
    }

    private static void twoReachedInTheFirstHalf() {
        for (int away : new int[] {1, 4}) {
            GroupStore x = new GroupStore();
            Steps.write(x, 0, 1, 0, 7);
            x.lose(away, 0);
            Checks.answers(1, () -> x.commit(0));
            GroupStore y = new GroupStore();
            Steps.write(y, 0, 1, 0, 7);
            Steps.onlyUp(y, 7 & ~away);
            Checks.answers(1, () -> y.commit(0));
        }
    }

    private static void proposals() {
        Checks.sentence("If a REACHED one knows the position as CHOSEN: w is that entry", RoundsTest::chosenGoesFirst);
        Checks.sentence("If a REACHED one knows it as CHOSEN: also the EMPTY entry", RoundsTest::emptyIsChosenToo);
        Checks.sentence("else if some have ACCEPTED one: w is the one with the greatest ballot",
                RoundsTest::greatestAcceptedBallot);
        Checks.sentence("else if some have ACCEPTED one: also the EMPTY entry", RoundsTest::emptyIsAcceptedToo);
        Checks.sentence("\"some have ACCEPTED one\" is meant of those REACHED in its first half",
                RoundsTest::acceptedElsewhereIsNotSeen);
    }

    private static void chosenGoesFirst() {
        // The runner itself knows it, or the one other server that is reached, or neither of the others.
        for (int runner = 0; runner < 3; runner++) {
            for (int away = 0; away < 3; away++) {
                if (away != runner) {
                    chosenIsProposed(runner, away);
                }
            }
        }
    }

    private static void chosenIsProposed(int runner, int away) {
        GroupStore x = new GroupStore();
        Steps.write(x, 0, runner, 0, 9);
        x.lose(0, 4);
        Steps.commitWrite(x, 0, 0, 0, 7);
        x.server(away, false);
        Checks.refuses(Checks.CONFLICT, () -> x.commit(0));
        Checks.answers(1, () -> x.log(runner, 0, 1, 2));
        Checks.answers(1, () -> x.log(runner, 0, 1, 4));
        Checks.answers(7, () -> x.read(runner, 0, 0, 1));
    }

    private static void emptyIsChosenToo() {
        GroupStore x = new GroupStore();
        Steps.write(x, 0, 2, 0, 9);
        Steps.loseWrite(x, 0, 0, 0, 7);
        x.server(0, false);
        Checks.answers(1, () -> x.catchUp(1, 0));
        Checks.refuses(Checks.CONFLICT, () -> x.commit(0));
        Steps.logIs(x, 2, 0, 1, "3 3 0 1 0");
        Checks.answers(1, () -> x.count(5));
    }

    private static void greatestAcceptedBallot() {
        // The servers accept entries of their own one after the other, the last one has the greatest ballot.
        int[][] orders = {{0, 1, 2}, {0, 2, 1}, {1, 0, 2}, {1, 2, 0}, {2, 0, 1}, {2, 1, 0}};
        for (int[] order : orders) {
            GroupStore x = new GroupStore();
            Steps.write(x, 0, order[0], 0, 70);
            Steps.write(x, 1, order[1], 0, 71);
            Steps.write(x, 2, order[2], 0, 72);
            x.lose(0, 7);
            Checks.refuses(Checks.NO_MAJORITY, () -> x.commit(0));
            x.lose(1 << order[0], 7);
            Checks.refuses(Checks.NO_MAJORITY, () -> x.commit(1));
            Checks.answers(1, () -> x.log(order[0], 0, 1, 2));
            Checks.answers(2, () -> x.log(order[1], 0, 1, 2));
            Checks.refuses(Checks.CONFLICT, () -> x.commit(2));
            for (int s = 0; s < 3; s++) {
                int server = s;
                Checks.answers(71, () -> x.read(server, 0, 0, 1));
                Checks.answers(2, () -> x.log(server, 0, 1, 2));
            }
        }
    }

    private static void emptyIsAcceptedToo() {
        GroupStore x = new GroupStore();
        Steps.write(x, 0, 2, 0, 9);
        Steps.loseWrite(x, 0, 0, 0, 7);
        x.server(0, false);
        x.lose(0, 7);
        Checks.refuses(Checks.NO_MAJORITY, () -> x.catchUp(1, 0));
        Steps.logIs(x, 1, 0, 1, "2 2 0 0 0");
        // Server 0's entry has the lesser ballot.
        x.server(0, true);
        Checks.refuses(Checks.CONFLICT, () -> x.commit(0));
        for (int s = 0; s < 3; s++) {
            Steps.logIs(x, s, 0, 1, "3 3 0 1 0");
        }
    }

    private static void acceptedElsewhereIsNotSeen() {
        // Server 0 is not reached at all, or in the second half alone, or is not up.
        for (int second = 0; second < 2; second++) {
            GroupStore x = new GroupStore();
            Steps.write(x, 0, 2, 0, 9);
            Steps.loseWrite(x, 0, 0, 0, 7);
            x.lose(1, second);
            Checks.answers(1, () -> x.commit(0));
            Steps.logIs(x, 0, 0, 1, second == 1 ? "1 1 1 0 0" : "3 3 2 1 2");
            Steps.logIs(x, 1, 0, 1, "3 3 2 1 2");
            Steps.logIs(x, 2, 0, 1, "3 3 2 1 2");
        }
        GroupStore y = new GroupStore();
        Steps.write(y, 0, 2, 0, 9);
        Steps.loseWrite(y, 0, 0, 0, 7);
        y.server(0, false);
        Checks.answers(1, () -> y.commit(0));
        Steps.logIs(y, 0, 0, 1, "1 1 1 0 0");
    }

    private static void secondHalf() {
        Checks.sentence("Second half: each server REACHED now has PROMISE and ACCEPTED that ballot, with w",
                RoundsTest::reachedInTheSecondHalfAlone);
        Checks.sentence("Second half, fewer than two: NO MAJORITY; what was ACCEPTED before stays",
                RoundsTest::oneReachedInTheSecondHalf);
        Checks.sentence("Second half: two are enough", RoundsTest::twoReachedInTheSecondHalf);
        Checks.sentence("Then all that accepted it know the position as CHOSEN with w", RoundsTest::onlyAcceptorsKnow);
    }

    private static void reachedInTheSecondHalfAlone() {
        GroupStore x = new GroupStore();
        Steps.write(x, 0, 1, 0, 7);
        x.lose(4, 1);
        Checks.answers(1, () -> x.commit(0));
        Steps.logIs(x, 0, 0, 1, "2 0 0 0 0");
        Steps.logIs(x, 1, 0, 1, "2 2 1 1 1");
        Steps.logIs(x, 2, 0, 1, "2 2 1 1 1");
        // What it had promised and accepted before gives way to the ballot.
        GroupStore y = new GroupStore();
        Steps.write(y, 0, 1, 0, 7);
        Steps.loseWrite(y, 2, 0, 0, 5);
        Steps.logIs(y, 2, 0, 1, "3 3 1 0 0");
        y.lose(4, 1);
        Checks.answers(1, () -> y.commit(0));
        Steps.logIs(y, 0, 0, 1, "6 0 0 0 0");
        Steps.logIs(y, 1, 0, 1, "6 6 2 1 2");
        Steps.logIs(y, 2, 0, 1, "6 6 2 1 2");
    }

    private static void oneReachedInTheSecondHalf() {
        Run lost = x -> {
            Steps.write(x, 0, 1, 3, 7);
            x.send(0, 2, 5);
            x.lose(4, 5);
        };
        GroupStore x = new GroupStore();
        lost.on(x);
        Checks.refuses(Checks.NO_MAJORITY, () -> x.commit(0));
        Look.changes(lost, y -> y.commit(0), "count 1: 1 -> 0", "count 3: 0 -> 1", "count 6: 0 -> 1",
                "count 8: 0 -> 1", "get 0 3: 7 -> none", "log 0 0 1: 0 0 0 0 0 -> 2 0 0 0 0",
                "log 1 0 1: 0 0 0 0 0 -> 2 2 1 0 0");
    }

    private static void twoReachedInTheSecondHalf() {
        for (int away : new int[] {1, 4}) {
            GroupStore x = new GroupStore();
            Steps.write(x, 0, 1, 0, 7);
            x.lose(0, away);
            Checks.answers(1, () -> x.commit(0));
            Checks.answers(1, () -> x.count(3));
        }
    }

    private static void onlyAcceptorsKnow() {
        Run before = x -> {
            Steps.write(x, 0, 1, 3, 7);
            x.lose(0, 4);
        };
        Look.changes(before, y -> y.commit(0), "count 1: 1 -> 0", "count 3: 0 -> 1", "count 4: 0 -> 1",
                "count 6: 0 -> 1", "count 10: 0 -> 1", "count 14: 0 -> 1", "get 0 3: 7 -> none",
                "log 0 0 1: 0 0 0 0 0 -> 2 2 1 1 1", "log 1 0 1: 0 0 0 0 0 -> 2 2 1 1 1",
                "log 2 0 1: 0 0 0 0 0 -> 2 0 0 0 0", "read 0 0 3 0: none -> 7", "read 0 0 3 1: none -> 7",
                "read 1 0 3 0: none -> 7", "read 1 0 3 1: none -> 7");
    }
}
