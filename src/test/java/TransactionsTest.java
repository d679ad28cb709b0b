/** The boundary cases that "TRANSACTIONS", "COMMITTING", begin, get, put, send, commit and abort name. */
public final class TransactionsTest {
    private TransactionsTest() {
    }

    public static void main(String[] args) {
        begins();
        gets();
        puts();
        sends();
        commitsOfNothing();
        commitsWithoutServer();
        commitsWithoutRoom();
        commitsWithoutMajority();
        conflicts();
        commits();
        aborts();
        Checks.finish();
    }

    private static void begins() {
        Checks.sentence("begin: transaction t (0 .. 4): all of them may be open at once", () -> {
            GroupStore x = new GroupStore();
            for (int t = 0; t < 5; t++) {
                int transaction = t;
                Checks.answers(t, () -> x.count(1));
                Checks.answers(0, () -> x.begin(transaction, transaction % 3, transaction % 4));
                x.put(t, 0, 10 * t);
            }
            Checks.answers(5, () -> x.count(1));
            for (int t = 0; t < 5; t++) {
                int transaction = t;
                Checks.answers(10 * t, () -> x.get(transaction, 0));
            }
        });
        Checks.sentence("begin: it may be open: that one is gone", () -> {
            Run once = x -> x.begin(0, 1, 2);
            Run before = x -> {
                Steps.write(x, 0, 0, 0, 1);
                x.put(0, 5, 1);
                x.put(0, 3, 1);
                x.send(0, 3, 1);
                x.send(0, 3, 2);
            };
            Look.sameBut(once, before.then(once));
            GroupStore x = new GroupStore();
            before.then(once).on(x);
            Checks.answers(1, () -> x.count(1));
            Checks.refuses(Checks.NOT_THERE, () -> x.get(0, 0));
            Checks.answers(0, () -> x.commit(0));
        });
        Checks.sentence("begin: at server s (it isn't UP: NO MAJORITY); t was not open", () -> {
            Run run = x -> {
                x.server(1, false);
                Steps.fill(x, 0, 2);
                x.lose(1, 2);
            };
            refusedForServer(run, x -> x.begin(0, 1, 0));
            refusedForServer(run, x -> x.begin(0, 1, 3));
        });
        Checks.sentence("begin: (it isn't UP: NO MAJORITY) a transaction t that was open stays open as it was", () -> {
            Run run = x -> {
                Steps.write(x, 0, 1, 0, 7);
                x.send(0, 2, 3);
                x.server(2, false);
                x.lose(1, 4);
            };
            refusedForServer(run, x -> x.begin(0, 2, 0));
            refusedForServer(run, x -> x.begin(0, 2, 1));
        });
        Checks.sentence("begin: ends with NO MAJORITY, a transaction t that was open stays open as it was", () -> {
            Run run = x -> {
                Steps.write(x, 0, 1, 2, 3, 7);
                x.send(0, 2, 3);
                Steps.loseWrite(x, 0, 0, 0, 9);
                x.lose(6, 0);
            };
            GroupStore x = new GroupStore();
            run.on(x);
            Checks.refuses(Checks.NO_MAJORITY, () -> x.begin(0, 0, 0));
            Look.changes(run, y -> y.begin(0, 0, 0), "count 3: 1 -> 2", "count 8: 1 -> 2",
                    "log 0 0 1: 1 1 1 0 0 -> 5 1 1 0 0");
            Checks.answers(7, () -> x.get(0, 3));
            Checks.answers(1, () -> x.commit(0));
            Steps.logIs(x, 1, 2, 1, "2 2 2 1 2");
            Checks.answers(1, () -> x.count(2));
        });
        Checks.sentence("begin: if it ends with NO MAJORITY, a transaction t that was not open is not", () -> {
            GroupStore x = new GroupStore();
            Steps.loseWrite(x, 0, 0, 0, 9);
            x.lose(6, 0);
            Checks.refuses(Checks.NO_MAJORITY, () -> x.begin(0, 0, 0));
            Checks.refuses(Checks.NOT_THERE, () -> x.abort(0));
            Checks.answers(0, () -> x.count(1));
        });
        Checks.sentence("begin: the server CATCHES UP first; the BASE is its EDGE then", () -> {
            GroupStore x = new GroupStore();
            x.server(2, false);
            Steps.fill(x, 0, 3);
            Steps.loseWrite(x, 0, 0, 0, 4);
            x.server(2, true);
            Checks.answers(4, () -> x.begin(0, 2, 0));
            Checks.answers(4, () -> x.get(0, 0));
            Checks.answers(4, () -> x.count(18));
            x.put(0, 0, 5);
            Checks.answers(5, () -> x.commit(0));
        });
        Checks.sentence("begin answers the BASE: 0 for an empty log, 10 for a full one", () -> {
            GroupStore x = new GroupStore();
            Checks.answers(0, () -> x.begin(0, 2, 3));
            Steps.fill(x, 3, 9);
            Checks.answers(9, () -> x.begin(0, 2, 3));
            Steps.commitWrite(x, 0, 3, 0, 10);
            Checks.answers(10, () -> x.begin(0, 2, 3));
        });
    }

    /** NO MAJORITY that is counted and changes nothing else. */
    private static void refusedForServer(Run run, Run call) {
        GroupStore x = new GroupStore();
        run.on(x);
        Checks.refuses(Checks.NO_MAJORITY, () -> call.on(x));
        Look.sameBut(run, run.then(Run.quietly(call)), "count 8: 0 -> 1");
    }

    private static void gets() {
        Checks.sentence("VALUES seen by it: its own WRITES, else those of its server at the BASE", () -> {
            GroupStore x = new GroupStore();
            Steps.commitWrite(x, 0, 0, 0, 1);
            Steps.commitWrite(x, 0, 0, 5, 2);
            Steps.write(x, 0, 1, 0, 8);
            Checks.answers(8, () -> x.get(0, 0));
            Checks.answers(2, () -> x.get(0, 5));
            x.put(0, 5, 0);
            Checks.answers(0, () -> x.get(0, 5));
        });
        Checks.sentence("those of its server at the BASE: what came later is not seen", () -> {
            GroupStore x = new GroupStore();
            x.begin(0, 1, 0);
            Steps.commitWrite(x, 0, 0, 0, 1);
            x.begin(1, 1, 0);
            Steps.commitWrite(x, 0, 0, 0, 2);
            Checks.refuses(Checks.NOT_THERE, () -> x.get(0, 0));
            Checks.answers(1, () -> x.get(1, 0));
            Checks.answers(2, () -> x.read(1, 0, 0, 0));
        });
        Checks.sentence("those of its server at the BASE: also if it isn't UP", () -> {
            GroupStore x = new GroupStore();
            Steps.commitWrite(x, 0, 0, 0, 1);
            x.begin(0, 1, 0);
            x.server(1, false);
            Checks.answers(1, () -> x.get(0, 0));
        });
        Checks.sentence("get: It isn't open: not there", () -> {
            Run run = x -> Steps.commitWrite(x, 0, 0, 0, 1);
            Look.changesNothing(Checks.NOT_THERE, run, x -> x.get(0, 0));
            Look.changesNothing(Checks.NOT_THERE, run, x -> x.get(4, 0));
            Run aborted = x -> {
                Steps.write(x, 0, 0, 0, 1);
                x.abort(0);
            };
            Look.changesNothing(Checks.NOT_THERE, aborted, x -> x.get(0, 0));
        });
        Checks.sentence("get: or there is none: not there", () -> {
            Run run = x -> {
                Steps.commitWrite(x, 0, 0, 1, 1);
                Steps.commitWrite(x, 0, 1, 0, 1);
                Steps.write(x, 0, 0, 2, 1);
            };
            for (int key : new int[] {0, 3, 4, 5}) {
                Look.changesNothing(Checks.NOT_THERE, run, x -> x.get(0, key));
            }
        });
        Checks.sentence("get: a VALUE of 0 is one", () -> {
            GroupStore x = new GroupStore();
            Steps.commitWrite(x, 0, 0, 3, 0);
            x.begin(0, 0, 0);
            Checks.answers(0, () -> x.get(0, 3));
            Checks.answers(0, () -> x.read(0, 0, 3, 0));
            Checks.answers(0, () -> x.read(0, 0, 3, 1));
        });
    }

    private static void puts() {
        Checks.sentence("WRITES are at most 3, a key 0 .. 5: any 3 of them go, a fourth is FULL", () -> {
            for (int keys = 0; keys < 64; keys++) {
                if (Integer.bitCount(keys) == 3) {
                    threeWrites(keys);
                }
            }
        });
        Checks.sentence("put: 3 others: FULL, changes nothing", () -> {
            Run run = x -> {
                threePuts(x, 7);
                x.send(0, 1, 1);
            };
            for (int key = 3; key < 6; key++) {
                int fourth = key;
                Look.changesNothing(Checks.FULL, run, x -> x.put(0, fourth, 9));
            }
        });
        Checks.sentence("put: in place of its former one of the key: also with 3", () -> {
            GroupStore x = new GroupStore();
            threePuts(x, 7);
            for (int key = 0; key < 3; key++) {
                int one = key;
                Checks.goes(() -> x.put(0, one, 90 + one));
                Checks.goes(() -> x.put(0, one, 80 + one));
                Checks.answers(80 + one, () -> x.get(0, one));
            }
            Checks.refuses(Checks.FULL, () -> x.put(0, 3, 1));
            x.commit(0);
            Checks.answers(82, () -> x.read(1, 0, 2, 0));
        });
        Checks.sentence("put: in place of its former one of the key: it is still one WRITE", () -> {
            GroupStore x = new GroupStore();
            x.begin(0, 0, 0);
            for (int i = 0; i < 4; i++) {
                x.put(0, 5, i);
            }
            Checks.goes(() -> x.put(0, 0, 1));
            Checks.goes(() -> x.put(0, 1, 1));
            Checks.refuses(Checks.FULL, () -> x.put(0, 2, 1));
            Checks.answers(3, () -> x.get(0, 5));
        });
        Checks.sentence("put: It isn't open: not there", () -> {
            Look.changesNothing(Checks.NOT_THERE, x -> { }, x -> x.put(0, 0, 1));
            Look.changesNothing(Checks.NOT_THERE, x -> Steps.commitWrite(x, 0, 0, 0, 1), x -> x.put(4, 0, 2));
        });
        Checks.sentence("put: a value may be any number", () -> {
            GroupStore x = new GroupStore();
            x.begin(0, 0, 0);
            x.put(0, 0, Integer.MIN_VALUE);
            x.put(0, 1, Integer.MAX_VALUE);
            x.put(0, 2, -1);
            Checks.answers(Integer.MIN_VALUE, () -> x.get(0, 0));
            x.commit(0);
            Checks.answers(Integer.MIN_VALUE, () -> x.read(2, 0, 0, 0));
            Checks.answers(Integer.MAX_VALUE, () -> x.read(2, 0, 1, 0));
            Checks.answers(-1, () -> x.read(2, 0, 2, 0));
        });
        Checks.sentence("put: 3 WRITES of one transaction leave those of another alone", () -> {
            GroupStore x = new GroupStore();
            threePuts(x, 7);
            x.begin(1, 0, 0);
            Checks.goes(() -> x.put(1, 3, 1));
            Checks.refuses(Checks.NOT_THERE, () -> x.get(1, 0));
            Checks.refuses(Checks.NOT_THERE, () -> x.get(0, 3));
        });
    }

    /** Transaction 0 with keys 0, 1 and 2. */
    private static void threePuts(GroupStore x, int value) {
        x.begin(0, 0, 0);
        for (int key = 0; key < 3; key++) {
            x.put(0, key, value + key);
        }
    }

    private static void threeWrites(int keys) {
        GroupStore x = new GroupStore();
        x.begin(0, 0, 0);
        for (int k = 0; k < 6; k++) {
            int key = k;
            if ((keys >> k & 1) != 0) {
                Checks.goes(() -> x.put(0, key, 100 + key));
            }
        }
        for (int k = 0; k < 6; k++) {
            int key = k;
            if ((keys >> k & 1) == 0) {
                Checks.refuses(Checks.FULL, () -> x.put(0, key, 1));
            }
        }
        x.commit(0);
        for (int k = 0; k < 6; k++) {
            int key = k;
            if ((keys >> k & 1) != 0) {
                Checks.answers(100 + key, () -> x.read(1, 0, key, 1));
            } else {
                Checks.refuses(Checks.NOT_THERE, () -> x.read(1, 0, key, 1));
            }
        }
    }

    private static void sends() {
        Checks.sentence("at most 2 MESSAGES; send: 2 are there: FULL, changes nothing", () -> {
            Run run = x -> {
                Steps.write(x, 0, 0, 0, 1);
                Checks.goes(() -> x.send(0, 0, 5));
                Checks.goes(() -> x.send(0, 3, 6));
            };
            for (int group = 0; group < 4; group++) {
                int third = group;
                Look.changesNothing(Checks.FULL, run, x -> x.send(0, third, 9));
            }
        });
        Checks.sentence("send: a second one to the same group is one more", () -> {
            GroupStore x = new GroupStore();
            x.begin(0, 0, 0);
            x.send(0, 2, 5);
            x.send(0, 2, 5);
            Checks.refuses(Checks.FULL, () -> x.send(0, 2, 5));
            x.commit(0);
            Checks.answers(2, () -> x.count(2));
            x.deliver();
            x.deliver();
            Checks.answers(10, () -> x.read(0, 2, 5, 0));
        });
        Checks.sentence("send: to the group (0 .. 3): each of them, also its own", () -> {
            for (int group = 0; group < 4; group++) {
                int to = group;
                GroupStore x = new GroupStore();
                Steps.commitMessage(x, 0, to, 5);
                Checks.answers(0, () -> x.deliver());
                Checks.answers(5, () -> x.read(0, to, 5, 0));
                Checks.answers(to == 0 ? 2 : 1, () -> x.count(10 + to));
            }
        });
        Checks.sentence("send: It isn't open: not there", () -> {
            Look.changesNothing(Checks.NOT_THERE, x -> { }, x -> x.send(0, 0, 1));
            Look.changesNothing(Checks.NOT_THERE, x -> Steps.commitMessage(x, 0, 0, 1), x -> x.send(4, 0, 2));
        });
        Checks.sentence("send: MESSAGES are no WRITES, 3 and 2 go together", () -> {
            GroupStore x = new GroupStore();
            x.begin(0, 0, 0);
            x.send(0, 1, 1);
            x.send(0, 1, 1);
            for (int k = 0; k < 3; k++) {
                int key = k;
                Checks.goes(() -> x.put(0, key, 1));
            }
            Checks.answers(1, () -> x.commit(0));
            Checks.answers(2, () -> x.count(2));
        });
    }

    private static void commitsOfNothing() {
        Checks.sentence("COMMITTING: without WRITES and MESSAGES nothing is done; it answers 0", () -> {
            Run run = x -> {
                Steps.fill(x, 0, 2);
                x.begin(0, 0, 0);
                x.lose(5, 6);
            };
            Look.sameBut(run.then(x -> x.abort(0)), run.then(x -> Checks.answers(0, () -> x.commit(0))));
        });
        Checks.sentence("COMMITTING: without WRITES and MESSAGES nothing is done, though the server isn't UP", () -> {
            Run run = x -> {
                x.begin(0, 1, 0);
                x.server(1, false);
            };
            Look.sameBut(run.then(x -> x.abort(0)), run.then(x -> Checks.answers(0, () -> x.commit(0))));
        });
        Checks.sentence("COMMITTING: without WRITES and MESSAGES nothing is done, though BASE is 10", () -> {
            Run run = x -> {
                Steps.fill(x, 2);
                x.begin(0, 1, 2);
            };
            Look.sameBut(run.then(x -> x.abort(0)), run.then(x -> Checks.answers(0, () -> x.commit(0))));
        });
        Checks.sentence("COMMITTING: without WRITES and MESSAGES nothing is done, though another came first", () -> {
            Run run = x -> {
                x.begin(0, 1, 2);
                Steps.fill(x, 2, 1);
            };
            Look.sameBut(run.then(x -> x.abort(0)), run.then(x -> Checks.answers(0, () -> x.commit(0))));
        });
        Checks.sentence("A commit without WRITES and MESSAGES counts as no COMMITTED one", () -> {
            GroupStore x = new GroupStore();
            x.begin(0, 0, 0);
            x.commit(0);
            Steps.countsAre(x, "3 0 0 0 0 0 0 0 0");
        });
        Checks.sentence("0 without WRITES and MESSAGES: one of either is enough for an entry", () -> {
            GroupStore x = new GroupStore();
            Steps.write(x, 0, 0, 0, 0);
            Checks.answers(1, () -> x.commit(0));
            x.begin(0, 0, 0);
            x.send(0, 0, 0);
            Checks.answers(2, () -> x.commit(0));
            Steps.countsAre(x, "3 0 1 2 2 0 2 0 0");
        });
    }

    private static void commitsWithoutServer() {
        Checks.sentence("COMMITTING: The server isn't UP: NO MAJORITY", () -> {
            Run run = x -> {
                Steps.write(x, 0, 1, 0, 7);
                x.send(0, 1, 1);
                x.server(1, false);
                x.lose(1, 4);
            };
            overWithoutServer(run);
        });
        Checks.sentence("COMMITTING: The server isn't UP goes before BASE is 10", () -> {
            Run run = x -> {
                Steps.fill(x, 0);
                Steps.write(x, 0, 1, 0, 7);
                x.server(1, false);
            };
            overWithoutServer(run);
        });
        Checks.sentence("COMMITTING: The server isn't UP goes before another one that came first", () -> {
            Run run = x -> {
                Steps.write(x, 0, 1, 0, 7);
                Steps.fill(x, 0, 1);
                x.server(1, false);
            };
            overWithoutServer(run);
        });
        Checks.sentence("COMMITTING: The server that is not UP may be UP again in time", () -> {
            GroupStore x = new GroupStore();
            Steps.write(x, 0, 1, 0, 7);
            x.server(1, false);
            x.server(1, true);
            Checks.answers(1, () -> x.commit(0));
        });
    }

    /** It is over as by an abort, and the refusal is counted. */
    private static void overWithoutServer(Run run) {
        GroupStore x = new GroupStore();
        run.on(x);
        Checks.refuses(Checks.NO_MAJORITY, () -> x.commit(0));
        Look.sameBut(run.then(y -> y.abort(0)), run.then(Run.quietly(y -> y.commit(0))), "count 8: 0 -> 1");
    }

    private static void commitsWithoutRoom() {
        Checks.sentence("COMMITTING: BASE is 10: FULL", () -> {
            Run run = x -> {
                Steps.fill(x, 0);
                Steps.write(x, 0, 1, 0, 7);
                x.send(0, 1, 1);
                x.lose(1, 4);
            };
            GroupStore x = new GroupStore();
            run.on(x);
            Checks.refuses(Checks.FULL, () -> x.commit(0));
            Look.sameBut(run.then(y -> y.abort(0)), run.then(Run.quietly(y -> y.commit(0))));
        });
        Checks.sentence("COMMITTING: BASE is 9: the last that goes", () -> {
            GroupStore x = new GroupStore();
            Steps.fill(x, 0, 9);
            Steps.write(x, 0, 1, 0, 7);
            Checks.answers(10, () -> x.commit(0));
            Checks.answers(10, () -> x.count(10));
            Checks.answers(7, () -> x.read(2, 0, 0, 10));
        });
        Checks.sentence("COMMITTING: BASE is 10, not the EDGE: with BASE 9 another one came first", () -> {
            GroupStore x = new GroupStore();
            Steps.fill(x, 0, 9);
            Steps.write(x, 0, 1, 0, 7);
            Steps.commitWrite(x, 0, 0, 0, 10);
            Checks.refuses(Checks.CONFLICT, () -> x.commit(0));
            Checks.answers(1, () -> x.count(5));
        });
        Checks.sentence("COMMITTING: BASE is 10: FULL in one group leaves the others room", () -> {
            GroupStore x = new GroupStore();
            Steps.fill(x, 0);
            Steps.write(x, 0, 1, 1, 0, 7);
            Checks.answers(1, () -> x.commit(0));
        });
    }

    private static void commitsWithoutMajority() {
        Checks.sentence("NO MAJORITY: the transaction is over", () -> {
            GroupStore x = new GroupStore();
            Steps.write(x, 0, 0, 0, 1);
            x.lose(7, 0);
            Checks.refuses(Checks.NO_MAJORITY, () -> x.commit(0));
            Checks.refuses(Checks.NOT_THERE, () -> x.commit(0));
            Steps.write(x, 1, 0, 0, 1);
            x.lose(0, 7);
            Checks.refuses(Checks.NO_MAJORITY, () -> x.commit(1));
            Checks.refuses(Checks.NOT_THERE, () -> x.commit(1));
            Steps.countsAre(x, "3 0 0 2 0 0 2 0 2");
        });
        Checks.sentence("NO MAJORITY: its entry may come to be CHOSEN later", () -> {
            GroupStore x = new GroupStore();
            Steps.write(x, 0, 0, 0, 7);
            x.send(0, 1, 3);
            x.lose(0, 7);
            Checks.refuses(Checks.NO_MAJORITY, () -> x.commit(0));
            Checks.answers(0, () -> x.count(2));
            Checks.answers(1, () -> x.begin(1, 2, 0));
            Checks.answers(7, () -> x.get(1, 0));
            Steps.countsAre(x, "3 1 1 2 0 0 1 0 1");
        });
        Checks.sentence("NO MAJORITY: its entry may come to be CHOSEN later, not if no one ACCEPTED it", () -> {
            GroupStore x = new GroupStore();
            Steps.write(x, 0, 0, 0, 7);
            x.lose(7, 0);
            Checks.refuses(Checks.NO_MAJORITY, () -> x.commit(0));
            Checks.answers(0, () -> x.begin(1, 2, 0));
            x.put(1, 1, 8);
            Checks.answers(1, () -> x.commit(1));
            Checks.refuses(Checks.NOT_THERE, () -> x.read(0, 0, 0, 0));
        });
        Checks.sentence("NO MAJORITY: its entry may come to be CHOSEN later, its writes as they were then", () -> {
            GroupStore x = new GroupStore();
            Steps.write(x, 0, 0, 0, 7);
            x.lose(0, 7);
            Checks.refuses(Checks.NO_MAJORITY, () -> x.commit(0));
            x.begin(0, 1, 3);
            x.put(0, 0, 99);
            x.put(0, 1, 99);
            Checks.answers(1, () -> x.catchUp(1, 0));
            Checks.answers(7, () -> x.read(1, 0, 0, 0));
            Checks.refuses(Checks.NOT_THERE, () -> x.read(1, 0, 1, 0));
        });
    }

    private static void conflicts() {
        Checks.sentence("Another entry is the outcome: CONFLICT; the ROUND before it stays", () -> {
            Run run = x -> {
                Steps.write(x, 0, 2, 3, 9);
                x.send(0, 1, 5);
                x.lose(4, 4);
                Steps.commitWrite(x, 0, 0, 3, 7);
            };
            GroupStore x = new GroupStore();
            run.on(x);
            Checks.refuses(Checks.CONFLICT, () -> x.commit(0));
            Look.changes(run, y -> y.commit(0), "count 1: 1 -> 0", "count 3: 1 -> 2", "count 5: 0 -> 1",
                    "count 6: 1 -> 2", "count 18: 0 -> 1", "get 0 3: 9 -> none", "log 0 0 1: 1 1 1 1 1 -> 3 3 1 1 1",
                    "log 1 0 1: 1 1 1 1 1 -> 3 3 1 1 1", "log 2 0 1: 0 0 0 0 0 -> 3 3 1 1 1",
                    "read 2 0 3 0: none -> 7", "read 2 0 3 1: none -> 7");
        });
        Checks.sentence("Another entry is the outcome: one that went lost before is made good by it", () -> {
            GroupStore x = new GroupStore();
            Steps.write(x, 1, 1, 0, 8);
            x.send(1, 3, 8);
            Steps.write(x, 0, 0, 0, 7);
            x.send(0, 2, 7);
            x.lose(0, 7);
            Checks.refuses(Checks.NO_MAJORITY, () -> x.commit(0));
            Checks.refuses(Checks.CONFLICT, () -> x.commit(1));
            Checks.answers(7, () -> x.read(1, 0, 0, 0));
            // The message is that of the outcome, not of the one that was refused.
            Checks.answers(0, () -> x.deliver());
            Checks.answers(7, () -> x.read(0, 2, 5, 0));
            Steps.countsAre(x, "3 0 0 3 0 1 3 1 1");
        });
        Checks.sentence("Another entry is the outcome: the EMPTY one", () -> {
            GroupStore x = new GroupStore();
            Steps.write(x, 0, 2, 0, 9);
            Steps.loseWrite(x, 0, 0, 0, 7);
            x.server(0, false);
            x.catchUp(1, 0);
            Checks.refuses(Checks.CONFLICT, () -> x.commit(0));
            Steps.countsAre(x, "2 0 0 3 0 1 2 0 1");
        });
        Checks.sentence("Another entry is the outcome: one of a delivering", () -> {
            GroupStore x = new GroupStore();
            Steps.commitMessage(x, 0, 1, 5);
            Steps.write(x, 0, 2, 1, 5, 9);
            Checks.answers(0, () -> x.deliver());
            Checks.refuses(Checks.CONFLICT, () -> x.commit(0));
            Checks.answers(5, () -> x.read(2, 1, 5, 0));
        });
        Checks.sentence("Another entry is the outcome: also one that writes the same", () -> {
            GroupStore x = new GroupStore();
            Steps.write(x, 0, 0, 0, 7);
            Steps.write(x, 1, 0, 0, 7);
            Checks.answers(1, () -> x.commit(1));
            Checks.refuses(Checks.CONFLICT, () -> x.commit(0));
        });
        Checks.sentence("Another entry is the outcome: not if the other one wrote in another group", () -> {
            GroupStore x = new GroupStore();
            Steps.write(x, 0, 0, 0, 0, 7);
            Steps.write(x, 1, 0, 1, 0, 7);
            Checks.answers(1, () -> x.commit(1));
            Checks.answers(1, () -> x.commit(0));
        });
    }

    private static void commits() {
        Checks.sentence("Its ENTRY gets the next number: 1, 2, .. in the order of the commits", () -> {
            GroupStore x = new GroupStore();
            for (int t = 0; t < 4; t++) {
                Steps.write(x, t, 0, t, 0, 7);
            }
            for (int t = 3; t >= 0; t--) {
                x.commit(t);
            }
            for (int g = 0; g < 4; g++) {
                Steps.logIs(x, 2, g, 1, "1 1 " + (4 - g) + " 1 " + (4 - g));
            }
            Checks.answers(4, () -> x.count(6));
        });
        Checks.sentence("Its ENTRY gets the next number: also one that is refused afterwards", () -> {
            GroupStore x = new GroupStore();
            Steps.write(x, 0, 0, 0, 7);
            Steps.write(x, 1, 0, 0, 7);
            Steps.write(x, 2, 0, 0, 7);
            x.lose(7, 0);
            Checks.refuses(Checks.NO_MAJORITY, () -> x.commit(0));
            Checks.answers(1, () -> x.commit(1));
            Checks.refuses(Checks.CONFLICT, () -> x.commit(2));
            Steps.commitWrite(x, 0, 0, 0, 8);
            Checks.answers(2, () -> x.log(0, 0, 1, 4));
            Checks.answers(4, () -> x.log(0, 0, 2, 4));
        });
        Checks.sentence("commit: It isn't open: not there", () -> {
            Look.changesNothing(Checks.NOT_THERE, x -> { }, x -> x.commit(0));
            Look.changesNothing(Checks.NOT_THERE, x -> Steps.commitWrite(x, 0, 0, 0, 1), x -> x.commit(4));
            Look.changesNothing(Checks.NOT_THERE, x -> Steps.onlyUp(x, 0), x -> x.commit(4));
        });
        Checks.sentence("commit: Answers the position of its entry: 1 .. 10", () -> {
            GroupStore x = new GroupStore();
            for (int p = 1; p <= 10; p++) {
                int position = p;
                Steps.write(x, 0, p % 3, 0, p);
                Checks.answers(position, () -> x.commit(0));
                Checks.answers(p, () -> x.count(4));
            }
        });
        Checks.sentence("commit: which is over however it ends", () -> {
            overAfter(x -> x.begin(0, 0, 0), "0");
            overAfter(x -> Steps.write(x, 0, 0, 0, 1), "1");
            overAfter(x -> {
                Steps.write(x, 0, 0, 0, 1);
                x.lose(7, 0);
            }, Checks.NO_MAJORITY.getName());
            overAfter(x -> {
                Steps.write(x, 0, 0, 0, 1);
                x.lose(0, 7);
            }, Checks.NO_MAJORITY.getName());
            overAfter(x -> {
                Steps.write(x, 0, 0, 0, 1);
                x.server(0, false);
            }, Checks.NO_MAJORITY.getName());
            overAfter(x -> {
                Steps.write(x, 0, 0, 0, 1);
                Steps.fill(x, 0, 1);
            }, Checks.CONFLICT.getName());
            overAfter(x -> {
                Steps.fill(x, 0);
                Steps.write(x, 0, 0, 0, 1);
            }, Checks.FULL.getName());
        });
        Checks.sentence("VALUES: what the WRITES of the entries, in order, left for each key", () -> {
            GroupStore x = new GroupStore();
            Steps.commitWrite(x, 0, 0, 0, 1);
            Steps.commitWrite(x, 1, 0, 1, 2);
            Steps.commitWrite(x, 2, 0, 0, 3);
            for (int s = 0; s < 3; s++) {
                int server = s;
                Checks.answers(3, () -> x.read(server, 0, 0, 0));
                Checks.answers(2, () -> x.read(server, 0, 1, 0));
                Checks.refuses(Checks.NOT_THERE, () -> x.read(server, 0, 2, 0));
            }
        });
    }

    private static void overAfter(Run run, String end) {
        GroupStore x = new GroupStore();
        run.on(x);
        Checks.answers(1, () -> x.count(1));
        Checks.same(end, Checks.outcome(() -> String.valueOf(x.commit(0))));
        Checks.answers(0, () -> x.count(1));
        Checks.refuses(Checks.NOT_THERE, () -> x.commit(0));
        Checks.refuses(Checks.NOT_THERE, () -> x.get(0, 0));
        Checks.refuses(Checks.NOT_THERE, () -> x.put(0, 0, 1));
        Checks.refuses(Checks.NOT_THERE, () -> x.send(0, 0, 1));
        Checks.refuses(Checks.NOT_THERE, () -> x.abort(0));
        // Opened anew it has nothing of the former one.
        Checks.answers(0, () -> x.begin(0, 1, 3));
        Checks.answers(0, () -> x.commit(0));
    }

    private static void aborts() {
        Checks.sentence("abort: Transaction t is over; nothing of it is left", () -> {
            Run with = x -> {
                Steps.write(x, 0, 1, 0, 7);
                x.send(0, 2, 1);
                x.abort(0);
            };
            Look.sameBut(x -> { }, with);
            Look.sameBut(x -> x.lose(3, 5), with.then(x -> x.lose(3, 5)));
        });
        Checks.sentence("abort: Transaction t is over, also at a server that isn't UP", () -> {
            GroupStore x = new GroupStore();
            Steps.write(x, 0, 1, 0, 7);
            Steps.onlyUp(x, 0);
            Checks.goes(() -> x.abort(0));
            Steps.countsAre(x, "0 0 0 0 0 0 0 0 0");
        });
        Checks.sentence("abort: Transaction t alone", () -> {
            GroupStore x = new GroupStore();
            for (int t = 0; t < 5; t++) {
                Steps.write(x, t, 0, 0, t);
            }
            Checks.goes(() -> x.abort(4));
            Checks.goes(() -> x.abort(0));
            Checks.answers(3, () -> x.count(1));
            Checks.answers(1, () -> x.get(1, 0));
            Checks.answers(3, () -> x.get(3, 0));
        });
        Checks.sentence("abort: It isn't open: not there", () -> {
            Look.changesNothing(Checks.NOT_THERE, x -> { }, x -> x.abort(0));
            Look.changesNothing(Checks.NOT_THERE, x -> Steps.commitWrite(x, 0, 0, 0, 1), x -> x.abort(4));
            Look.changesNothing(Checks.NOT_THERE, x -> Steps.write(x, 3, 0, 0, 1), x -> x.abort(4));
        });
    }
}
