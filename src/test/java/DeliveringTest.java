/** The boundary cases that "THE QUEUE", "DELIVERING" and deliver name. */
public final class DeliveringTest {
    private DeliveringTest() {
    }

    public static void main(String[] args) {
        queueOrder();
        queueTakesOnce();
        emptyQueue();
        serversThatDeliver();
        values();
        entries();
        fullGroups();
        catchingUpFirst();
        roundsOfADelivering();
        lostDeliverings();
        Checks.finish();
    }

    private static void queueOrder() {
        Checks.sentence("the MESSAGES of its entry are put at its end, in order", () -> {
            GroupStore x = new GroupStore();
            twoMessages(x, 0, 1, 2);
            twoMessages(x, 3, 3, 0);
            Checks.answers(4, () -> x.count(2));
            int[] groups = {1, 2, 3, 0};
            for (int i = 0; i < 4; i++) {
                int left = 3 - i;
                int edge = 10 + groups[i];
                int before = x.count(edge);
                Checks.answers(left, () -> x.deliver());
                Checks.answers(before + 1, () -> x.count(edge));
            }
        });
        Checks.sentence("put at its end when the position comes to be known as CHOSEN, not before", () -> {
            GroupStore x = new GroupStore();
            x.begin(0, 0, 0);
            x.send(0, 1, 1);
            x.lose(0, 7);
            Checks.refuses(Checks.NO_MAJORITY, () -> x.commit(0));
            Checks.answers(0, () -> x.count(2));
            Checks.refuses(Checks.NOT_THERE, () -> x.deliver());
            x.begin(0, 0, 3);
            x.send(0, 2, 2);
            x.commit(0);
            Checks.answers(1, () -> x.count(2));
            x.catchUp(2, 0);
            Checks.answers(2, () -> x.count(2));
            Checks.answers(1, () -> x.deliver());
            Checks.answers(2, () -> x.read(0, 2, 5, 0));
            Checks.answers(0, () -> x.deliver());
            Checks.answers(1, () -> x.read(0, 1, 5, 0));
        });
        Checks.sentence("THE QUEUE holds all that can come: two of each position of each group", () -> {
            GroupStore x = new GroupStore();
            for (int p = 1; p <= 10; p++) {
                for (int g = 0; g < 4; g++) {
                    twoMessages(x, g, 1, 2);
                }
            }
            Checks.answers(80, () -> x.count(2));
            Checks.refuses(Checks.FULL, () -> x.deliver());
            Checks.answers(80, () -> x.count(2));
        });
        Checks.sentence("THE QUEUE: what was taken from it leaves room for as many again", () -> {
            GroupStore x = new GroupStore();
            for (int i = 0; i < 10; i++) {
                twoMessages(x, i < 5 ? 0 : 1, 2, 3);
                Checks.answers(1, () -> x.deliver());
                Checks.answers(0, () -> x.deliver());
            }
            Checks.answers(10, () -> x.count(12));
            Checks.answers(10, () -> x.count(13));
            Checks.answers(10, () -> x.read(0, 2, 5, 0));
            Checks.answers(20, () -> x.read(0, 3, 5, 0));
        });
    }

    /** An entry of group g with the value 1 for one group and 2 for the other. */
    private static void twoMessages(GroupStore x, int g, int one, int other) {
        x.begin(4, 0, g);
        x.send(4, one, 1);
        x.send(4, other, 2);
        Checks.goes(() -> x.commit(4));
    }

    private static void queueTakesOnce() {
        Checks.sentence("known as CHOSEN by a server for the first time: not again for a server that is told", () -> {
            GroupStore x = new GroupStore();
            x.server(2, false);
            Steps.commitMessage(x, 0, 1, 1);
            x.server(2, true);
            Checks.answers(1, () -> x.catchUp(2, 0));
            Checks.answers(1, () -> x.count(2));
        });
        Checks.sentence("known as CHOSEN by a server for the first time: not again by a ROUND of a CONFLICT", () -> {
            for (int away = 0; away < 2; away++) {
                GroupStore x = new GroupStore();
                Steps.write(x, 0, 2, 0, 1);
                x.lose(0, 4);
                Steps.commitMessage(x, 0, 1, 1);
                // Of the two that know it one is not up, so that one knower and one other are reached.
                x.server(away, false);
                Checks.refuses(Checks.CONFLICT, () -> x.commit(0));
                Checks.answers(1, () -> x.log(2, 0, 1, 3));
                Checks.answers(1, () -> x.count(2));
            }
        });
        Checks.sentence("known as CHOSEN by a server for the first time: not again once it is delivered", () -> {
            GroupStore x = new GroupStore();
            Steps.write(x, 0, 1, 0, 1);
            Steps.commitMessage(x, 0, 1, 1);
            Checks.answers(0, () -> x.deliver());
            Checks.refuses(Checks.CONFLICT, () -> x.commit(0));
            Checks.answers(0, () -> x.count(2));
        });
        Checks.sentence("the MESSAGES of its entry: the EMPTY one has none, those of the lost one never come", () -> {
            GroupStore x = new GroupStore();
            x.begin(0, 0, 0);
            x.send(0, 1, 1);
            x.lose(0, 7);
            Checks.refuses(Checks.NO_MAJORITY, () -> x.commit(0));
            x.server(0, false);
            Checks.answers(1, () -> x.catchUp(1, 0));
            x.server(0, true);
            Checks.answers(1, () -> x.catchUp(0, 0));
            Steps.logIs(x, 0, 0, 1, "1 1 1 1 0");
            Checks.answers(0, () -> x.count(2));
        });
        Checks.sentence("the MESSAGES of its entry: an entry without them puts none", () -> {
            GroupStore x = new GroupStore();
            Steps.commitWrite(x, 0, 0, 5, 1);
            Checks.answers(0, () -> x.count(2));
        });
    }

    private static void emptyQueue() {
        Checks.sentence("deliver: It's empty: not there", () -> {
            Look.changesNothing(Checks.NOT_THERE, x -> { }, x -> x.deliver());
            Run run = x -> {
                Steps.commitMessage(x, 0, 1, 1);
                x.deliver();
                x.lose(3, 6);
            };
            Look.changesNothing(Checks.NOT_THERE, run, x -> x.deliver());
        });
        Checks.sentence("deliver: It's empty goes before the search for the server", () -> {
            Look.changesNothing(Checks.NOT_THERE, x -> Steps.onlyUp(x, 0), x -> x.deliver());
        });
        Checks.sentence("deliver: Answers how many are left: 1 of 2, 0 of 1", () -> {
            GroupStore x = new GroupStore();
            twoMessages(x, 0, 1, 1);
            Checks.answers(1, () -> x.deliver());
            Checks.answers(0, () -> x.deliver());
            Checks.refuses(Checks.NOT_THERE, () -> x.deliver());
            Checks.answers(2, () -> x.count(7));
        });
    }

    private static void serversThatDeliver() {
        Checks.sentence("DELIVERING: by the least server that is UP", () -> {
            int[] ups = {3, 5, 6, 7};
            int[] least = {0, 0, 1, 0};
            for (int i = 0; i < ups.length; i++) {
                GroupStore x = new GroupStore();
                Steps.commitMessage(x, 0, 1, 1);
                Steps.onlyUp(x, ups[i]);
                Checks.answers(0, () -> x.deliver());
                int ballot = least[i] + 1;
                int server = least[i];
                Checks.answers(ballot, () -> x.log(server, 1, 1, 1));
            }
        });
        Checks.sentence("DELIVERING: by the least server that is UP, also if it is the only one", () -> {
            for (int s = 0; s < 3; s++) {
                int alone = s;
                Run run = x -> {
                    Steps.commitMessage(x, 0, 1, 1);
                    Steps.onlyUp(x, 1 << alone);
                };
                GroupStore x = new GroupStore();
                run.on(x);
                Checks.refuses(Checks.NO_MAJORITY, () -> x.deliver());
                Look.changes(run, y -> y.deliver(), "count 3: 1 -> 2", "count 6: 1 -> 2", "count 8: 0 -> 1",
                        "log " + s + " 1 1: 0 0 0 0 0 -> " + (s + 1) + " 0 0 0 0");
            }
        });
        Checks.sentence("DELIVERING: (none: NO MAJORITY), no number is given, the message stays first", () -> {
            Run run = x -> {
                twoMessages(x, 0, 1, 2);
                Steps.onlyUp(x, 0);
                x.lose(2, 4);
            };
            GroupStore x = new GroupStore();
            run.on(x);
            Checks.refuses(Checks.NO_MAJORITY, () -> x.deliver());
            Look.sameBut(run, run.then(Run.quietly(y -> y.deliver())), "count 8: 0 -> 1");
            Steps.onlyUp(x, 7);
            Checks.answers(1, () -> x.deliver());
            Checks.answers(2, () -> x.log(0, 1, 1, 4));
        });
    }

    private static void values() {
        Checks.sentence("the value that it has there (0 without) plus that of the message", () -> {
            sumIs(new int[] {7}, 7);
            sumIs(new int[] {-7}, -7);
            sumIs(new int[] {0}, 0);
            sumIs(new int[] {3, 4}, 7);
            sumIs(new int[] {3, -3}, 0);
        });
        Checks.sentence("plus that of the message (wrapping): upwards", () -> {
            sumIs(new int[] {Integer.MAX_VALUE}, Integer.MAX_VALUE);
            sumIs(new int[] {Integer.MAX_VALUE, 1}, Integer.MIN_VALUE);
            sumIs(new int[] {Integer.MAX_VALUE, Integer.MAX_VALUE}, -2);
        });
        Checks.sentence("plus that of the message (wrapping): downwards", () -> {
            sumIs(new int[] {Integer.MIN_VALUE}, Integer.MIN_VALUE);
            sumIs(new int[] {Integer.MIN_VALUE, -1}, Integer.MAX_VALUE);
            sumIs(new int[] {Integer.MIN_VALUE, Integer.MIN_VALUE}, 0);
        });
        Checks.sentence("the value that it has there: one that a transaction wrote", () -> {
            GroupStore x = new GroupStore();
            Steps.commitWrite(x, 0, 1, 5, 100);
            Steps.commitWrite(x, 0, 1, 4, 1);
            Steps.commitMessage(x, 0, 1, -1);
            x.deliver();
            Checks.answers(99, () -> x.read(1, 1, 5, 0));
            Checks.answers(100, () -> x.read(1, 1, 5, 2));
        });
    }

    private static void sumIs(int[] messages, int want) {
        GroupStore x = new GroupStore();
        for (int message : messages) {
            Steps.commitMessage(x, 0, 3, message);
        }
        for (int i = 0; i < messages.length; i++) {
            x.deliver();
        }
        Checks.answers(want, () -> x.read(2, 3, 5, 0));
        Checks.answers(messages.length, () -> x.count(13));
    }

    private static void entries() {
        Checks.sentence("a ROUND for its EDGE + 1 with an entry that writes key 5; done, the message is gone", () -> {
            Run run = x -> {
                Steps.commitWrite(x, 0, 1, 0, 6);
                twoMessages(x, 0, 1, 2);
            };
            Look.changes(run, x -> x.deliver(), "count 2: 2 -> 1", "count 3: 2 -> 3", "count 6: 2 -> 3",
                    "count 7: 0 -> 1", "count 11: 1 -> 2", "count 15: 1 -> 2", "count 19: 1 -> 2",
                    "log 0 1 2: 0 0 0 0 0 -> 1 1 3 1 3", "log 1 1 2: 0 0 0 0 0 -> 1 1 3 1 3",
                    "log 2 1 2: 0 0 0 0 0 -> 1 1 3 1 3", "read 0 1 0 2: none -> 6", "read 0 1 5 0: none -> 1",
                    "read 0 1 5 2: none -> 1", "read 1 1 0 2: none -> 6", "read 1 1 5 0: none -> 1",
                    "read 1 1 5 2: none -> 1", "read 2 1 0 2: none -> 6", "read 2 1 5 0: none -> 1",
                    "read 2 1 5 2: none -> 1");
        });
        Checks.sentence("DELIVERING is no COMMITTING: open transactions and COMMITTED stay", () -> {
            GroupStore x = new GroupStore();
            Steps.commitMessage(x, 0, 1, 1);
            for (int t = 0; t < 5; t++) {
                Steps.write(x, t, 0, 0, t);
            }
            Checks.answers(0, () -> x.deliver());
            Steps.countsAre(x, "3 5 0 2 1 0 2 1 0");
        });
        Checks.sentence("the next number is given once for the whole delivering", () -> {
            GroupStore x = new GroupStore();
            Steps.commitMessage(x, 0, 1, 1);
            Steps.loseWrite(x, 1, 1, 0, 7);
            Checks.answers(0, () -> x.deliver());
            Steps.logIs(x, 0, 1, 1, "5 5 2 1 2");
            Steps.logIs(x, 0, 1, 2, "1 1 3 1 3");
            Checks.answers(3, () -> x.count(6));
        });
    }

    private static void fullGroups() {
        Checks.sentence("with the EDGE at 10 it is FULL: the message stays first, the number is given", () -> {
            Run run = x -> {
                Steps.fill(x, 1);
                twoMessages(x, 0, 1, 2);
                x.lose(6, 6);
            };
            GroupStore x = new GroupStore();
            run.on(x);
            Checks.refuses(Checks.FULL, () -> x.deliver());
            Look.changes(run, y -> y.deliver(), "count 6: 11 -> 12");
            // The one behind it waits too, though its group has room.
            Checks.refuses(Checks.FULL, () -> x.deliver());
            Checks.answers(0, () -> x.count(12));
            Steps.countsAre(x, "3 0 2 11 11 0 13 0 0");
        });
        Checks.sentence("with the EDGE at 9 it is the last that goes", () -> {
            GroupStore x = new GroupStore();
            Steps.fill(x, 1, 9);
            twoMessages(x, 0, 1, 1);
            Checks.answers(1, () -> x.deliver());
            Steps.logIs(x, 2, 1, 10, "1 1 11 1 11");
            Checks.answers(1, () -> x.read(2, 1, 5, 10));
            Checks.refuses(Checks.FULL, () -> x.deliver());
            Checks.answers(1, () -> x.count(2));
            Checks.answers(1, () -> x.read(2, 1, 5, 0));
        });
        Checks.sentence("with the EDGE at 10 after CATCHING UP: what was caught up stays", () -> {
            Run run = x -> {
                Steps.commitMessage(x, 0, 1, 1);
                Steps.fill(x, 1, 9);
                Steps.loseWrite(x, 1, 1, 0, 10);
            };
            GroupStore x = new GroupStore();
            run.on(x);
            Checks.refuses(Checks.FULL, () -> x.deliver());
            Checks.answers(10, () -> x.count(11));
            Checks.answers(10, () -> x.read(0, 1, 0, 0));
            Checks.answers(12, () -> x.count(6));
            Checks.answers(12, () -> x.count(3));
            Checks.answers(1, () -> x.count(2));
        });
        Checks.sentence("with the EDGE at 10 it is FULL, also for one that is told all of it first", () -> {
            GroupStore x = new GroupStore();
            Steps.commitMessage(x, 1, 1, 1);
            x.server(0, false);
            for (int p = 1; p <= 10; p++) {
                Steps.commitWrite(x, 1, 1, 0, p);
            }
            x.server(0, true);
            Checks.refuses(Checks.FULL, () -> x.deliver());
            Checks.answers(10, () -> x.count(11));
            Checks.answers(11, () -> x.count(3));
        });
    }

    private static void catchingUpFirst() {
        Checks.sentence("it CATCHES UP in the group of the message: the sum is with what it did not know", () -> {
            GroupStore x = new GroupStore();
            Steps.commitMessage(x, 1, 1, 5);
            x.server(0, false);
            Steps.commitWrite(x, 1, 1, 5, 20);
            Steps.commitWrite(x, 1, 2, 5, 20);
            Steps.loseWrite(x, 1, 1, 5, 30);
            x.server(0, true);
            Checks.answers(0, () -> x.deliver());
            Checks.answers(35, () -> x.read(0, 1, 5, 3));
            Checks.answers(3, () -> x.count(11));
            Checks.answers(0, () -> x.count(12));
        });
        Checks.sentence("it CATCHES UP: NO MAJORITY, what was caught up before and the number stay", () -> {
            Run run = x -> {
                twoMessages(x, 0, 1, 2);
                x.server(0, false);
                Steps.commitWrite(x, 1, 1, 3, 6);
                Steps.loseWrite(x, 1, 1, 3, 7);
                x.server(0, true);
                x.lose(6, 0);
            };
            GroupStore x = new GroupStore();
            run.on(x);
            Checks.refuses(Checks.NO_MAJORITY, () -> x.deliver());
            Look.changes(run, y -> y.deliver(), "count 3: 3 -> 4", "count 6: 3 -> 4", "count 8: 1 -> 2",
                    "count 11: 0 -> 1", "log 0 1 1: 0 0 0 0 0 -> 0 0 0 1 2", "log 0 1 2: 0 0 0 0 0 -> 5 0 0 0 0",
                    "read 0 1 3 0: none -> 6", "read 0 1 3 1: none -> 6");
            // The message is still the first, and the one behind it the second.
            Checks.answers(1, () -> x.deliver());
            Checks.answers(1, () -> x.read(0, 1, 5, 3));
            Checks.answers(0, () -> x.deliver());
            Checks.answers(2, () -> x.read(0, 2, 5, 1));
        });
        Checks.sentence("it CATCHES UP: a message that comes by that is put behind, and is left", () -> {
            GroupStore x = new GroupStore();
            Steps.commitMessage(x, 0, 1, 5);
            x.begin(0, 1, 1);
            x.send(0, 3, 9);
            x.lose(0, 7);
            Checks.refuses(Checks.NO_MAJORITY, () -> x.commit(0));
            Checks.answers(1, () -> x.deliver());
            Checks.answers(5, () -> x.read(0, 1, 5, 2));
            Checks.answers(0, () -> x.deliver());
            Checks.answers(9, () -> x.read(0, 3, 5, 1));
        });
        Checks.sentence("LOSS for the next ROUND alone: that of the catching up, not of the delivering", () -> {
            GroupStore x = new GroupStore();
            Steps.commitMessage(x, 0, 1, 5);
            Steps.loseWrite(x, 1, 1, 0, 7);
            x.lose(4, 4);
            Checks.answers(0, () -> x.deliver());
            Steps.logIs(x, 2, 1, 1, "2 0 0 0 0");
            Steps.logIs(x, 2, 1, 2, "1 1 3 1 3");
        });
    }

    private static void roundsOfADelivering() {
        Checks.sentence("at most 4 ROUNDS in all: after CATCHING UP the first one settles it", () -> {
            for (int lost = 0; lost < 3; lost++) {
                for (int masks = 0; masks < 64; masks++) {
                    oneRoundSettlesIt(lost, masks / 8, masks % 8);
                }
            }
        });
    }

    /** The lost entry stands where the delivering would write, so catching up takes the round with the loss. */
    private static void oneRoundSettlesIt(int lost, int first, int second) {
        GroupStore x = new GroupStore();
        Steps.commitMessage(x, 0, 1, 5);
        Steps.loseWrite(x, lost, 1, 0, 7);
        x.lose(first, second);
        boolean majority = Integer.bitCount(first | 1) < 3 && Integer.bitCount(second | 1) < 3;
        if (majority) {
            Checks.answers(0, () -> x.deliver());
        } else {
            Checks.refuses(Checks.NO_MAJORITY, () -> x.deliver());
        }
        Checks.answers(majority ? 4 : 3, () -> x.count(3));
        Checks.answers(majority ? 0 : 1, () -> x.count(2));
        Checks.answers(3, () -> x.count(6));
        Checks.answers(majority ? 2 : 0, () -> x.count(11));
        Checks.answers(majority ? 3 : 0, () -> x.log(0, 1, 2, 4));
    }

    private static void lostDeliverings() {
        Checks.sentence("DELIVERING: NO MAJORITY in the first half: the message stays first", () -> {
            Run run = x -> {
                twoMessages(x, 0, 1, 2);
                x.lose(6, 6);
            };
            GroupStore x = new GroupStore();
            run.on(x);
            Checks.refuses(Checks.NO_MAJORITY, () -> x.deliver());
            Look.changes(run, y -> y.deliver(), "count 3: 1 -> 2", "count 6: 1 -> 2", "count 8: 0 -> 1",
                    "log 0 1 1: 0 0 0 0 0 -> 1 0 0 0 0");
            Checks.answers(1, () -> x.deliver());
            Steps.logIs(x, 0, 1, 1, "5 5 3 1 3");
            Checks.answers(1, () -> x.read(0, 1, 5, 0));
        });
        Checks.sentence("DELIVERING: NO MAJORITY in the second half: it stays first, its entry may be CHOSEN", () -> {
            Run run = x -> {
                twoMessages(x, 0, 1, 2);
                x.lose(0, 6);
            };
            GroupStore x = new GroupStore();
            run.on(x);
            Checks.refuses(Checks.NO_MAJORITY, () -> x.deliver());
            Look.changes(run, y -> y.deliver(), "count 3: 1 -> 2", "count 6: 1 -> 2", "count 8: 0 -> 1",
                    "log 0 1 1: 0 0 0 0 0 -> 1 1 2 0 0", "log 1 1 1: 0 0 0 0 0 -> 1 0 0 0 0",
                    "log 2 1 1: 0 0 0 0 0 -> 1 0 0 0 0");
            Checks.answers(1, () -> x.catchUp(2, 1));
            Checks.answers(1, () -> x.read(2, 1, 5, 0));
            Checks.answers(2, () -> x.count(2));
            Checks.answers(0, () -> x.count(7));
            Checks.answers(1, () -> x.deliver());
            Checks.answers(2, () -> x.read(2, 1, 5, 0));
            Checks.answers(1, () -> x.count(7));
        });
        Checks.sentence("DELIVERING: NO MAJORITY each time: each has a number of its own", () -> {
            GroupStore x = new GroupStore();
            Steps.commitMessage(x, 0, 1, 1);
            for (int i = 1; i <= 3; i++) {
                x.lose(7, 7);
                Checks.refuses(Checks.NO_MAJORITY, () -> x.deliver());
                Steps.countsAre(x, "3 0 1 " + (1 + i) + " 1 0 " + (1 + i) + " 0 " + i);
            }
            Checks.answers(0, () -> x.deliver());
            Steps.logIs(x, 0, 1, 1, "13 13 5 1 5");
        });
    }
}
