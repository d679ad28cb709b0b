/** The boundary cases of a new object, server, lose, read, log and count, and the limit of calls. */
public final class AnswersTest {
    private AnswersTest() {
    }

    public static void main(String[] args) {
        newObjects();
        servers();
        reads();
        logs();
        counts();
        limits();
        Checks.finish();
    }

    private static void newObjects() {
        Checks.sentence("GroupStore(): All servers UP", () -> {
            GroupStore x = new GroupStore();
            Checks.answers(3, () -> x.count(0));
            for (int s = 0; s < 3; s++) {
                int server = s;
                Checks.answers(0, () -> x.catchUp(server, 0));
                Checks.answers(0, () -> x.begin(server, server, 0));
            }
        });
        Checks.sentence("GroupStore(): empty logs: PROMISE and ACCEPTED 0 at first, nothing CHOSEN, EDGES 0", () -> {
            for (int g = 0; g < 4; g++) {
                GroupStore x = new GroupStore();
                for (int s = 0; s < 3; s++) {
                    for (int p = 1; p <= 10; p++) {
                        Steps.logIs(x, s, g, p, "0 0 0 0 0");
                    }
                    int edge = 10 + 4 * s + g;
                    Checks.answers(0, () -> x.count(edge));
                }
            }
        });
        Checks.sentence("GroupStore(): no transaction is open, THE QUEUE is empty, nothing is counted, no LOSS", () -> {
            GroupStore x = new GroupStore();
            Steps.countsAre(x, "3 0 0 0 0 0 0 0 0");
            for (int t = 0; t < 5; t++) {
                int transaction = t;
                Checks.refuses(Checks.NOT_THERE, () -> x.abort(transaction));
            }
            Checks.refuses(Checks.NOT_THERE, () -> x.deliver());
            Steps.commitWrite(x, 0, 0, 0, 1);
            Steps.logIs(x, 1, 0, 1, "1 1 1 1 1");
            Steps.logIs(x, 2, 0, 1, "1 1 1 1 1");
        });
        Checks.sentence("GroupStore(): one object knows nothing of another", () -> {
            GroupStore x = new GroupStore();
            Steps.fill(x, 0, 3);
            Steps.commitMessage(x, 0, 1, 1);
            x.begin(0, 0, 0);
            x.server(0, false);
            x.lose(7, 7);
            GroupStore y = new GroupStore();
            Steps.countsAre(y, "3 0 0 0 0 0 0 0 0");
            Steps.logIs(y, 0, 0, 1, "0 0 0 0 0");
            Checks.refuses(Checks.NOT_THERE, () -> y.get(0, 0));
            Steps.commitWrite(y, 0, 0, 0, 9);
            Checks.answers(9, () -> y.read(2, 0, 0, 0));
            Checks.answers(1, () -> x.read(2, 0, 0, 1));
            Steps.countsAre(x, "2 1 1 4 4 0 4 0 0");
        });
    }

    private static void servers() {
        Checks.sentence("server: Server s is UP, or not: each for itself, none and all", () -> {
            for (int up = 0; up < 8; up++) {
                GroupStore x = new GroupStore();
                Steps.onlyUp(x, up);
                int servers = up;
                Checks.answers(Integer.bitCount(servers), () -> x.count(0));
                for (int s = 0; s < 3; s++) {
                    int server = s;
                    if ((up >> s & 1) != 0) {
                        Checks.answers(0, () -> x.catchUp(server, 0));
                    } else {
                        Checks.refuses(Checks.NO_MAJORITY, () -> x.catchUp(server, 0));
                    }
                }
            }
        });
        Checks.sentence("server: said again it changes nothing", () -> {
            Run run = x -> {
                Steps.commitMessage(x, 0, 1, 1);
                Steps.write(x, 0, 1, 0, 1);
                x.server(2, false);
                x.lose(1, 2);
            };
            Look.sameBut(run, run.then(x -> x.server(2, false)));
            Look.sameBut(run, run.then(x -> x.server(1, true)));
        });
        Checks.sentence("server: it is UP or not, and nothing else of it changes", () -> {
            Run run = x -> {
                Steps.commitMessage(x, 0, 1, 1);
                Steps.write(x, 0, 1, 0, 1);
                x.lose(1, 2);
            };
            Look.changes(run, x -> x.server(1, false), "count 0: 3 -> 2");
            Look.sameBut(run, run.then(x -> {
                x.server(1, false);
                x.server(1, true);
            }));
        });
        Checks.sentence("lose: Sets LOSS, and nothing is seen of it but by a ROUND", () -> {
            Run run = x -> {
                Steps.commitMessage(x, 0, 1, 1);
                Steps.write(x, 0, 1, 0, 1);
            };
            Look.changes(run, x -> x.lose(7, 7));
            Look.changes(run, x -> x.lose(0, 0));
            Look.sameBut(run, run.then(x -> x.lose(0, 0)));
        });
    }

    private static void reads() {
        Checks.sentence("read: at its EDGE (position 0), or as it was after the position (1 .. its EDGE)", () -> {
            GroupStore x = new GroupStore();
            Steps.fill(x, 0, 4);
            for (int s = 0; s < 3; s++) {
                int server = s;
                Checks.answers(4, () -> x.read(server, 0, 0, 0));
                for (int p = 1; p <= 4; p++) {
                    int position = p;
                    Checks.answers(position, () -> x.read(server, 0, 0, position));
                }
            }
        });
        Checks.sentence("read: (1 .. its EDGE, else not there)", () -> {
            Run run = x -> Steps.fill(x, 0, 4);
            for (int p = 5; p <= 10; p++) {
                int position = p;
                Look.changesNothing(Checks.NOT_THERE, run, x -> x.read(0, 0, 0, position));
            }
            Look.changesNothing(Checks.NOT_THERE, x -> { }, x -> x.read(0, 0, 0, 1));
        });
        Checks.sentence("read: (1 .. its EDGE): 10 is the last", () -> {
            GroupStore x = new GroupStore();
            Steps.fill(x, 3);
            Checks.answers(10, () -> x.read(2, 3, 0, 10));
            Checks.answers(10, () -> x.read(2, 3, 0, 0));
            Checks.answers(9, () -> x.read(2, 3, 0, 9));
            Checks.refuses(Checks.BAD, () -> x.read(2, 3, 0, 11));
        });
        Checks.sentence("read: (1 .. its EDGE, else not there): what it knows behind a gap is not there", () -> {
            GroupStore x = new GroupStore();
            Steps.commitWrite(x, 0, 0, 0, 1);
            x.lose(4, 4);
            Steps.commitWrite(x, 0, 0, 0, 2);
            Steps.commitWrite(x, 0, 0, 0, 3);
            Checks.answers(1, () -> x.log(2, 0, 3, 3));
            Checks.answers(1, () -> x.read(2, 0, 0, 0));
            Checks.answers(1, () -> x.read(2, 0, 0, 1));
            Checks.refuses(Checks.NOT_THERE, () -> x.read(2, 0, 0, 2));
            Checks.refuses(Checks.NOT_THERE, () -> x.read(2, 0, 0, 3));
        });
        Checks.sentence("read: that server s has: it does not catch up", () -> {
            GroupStore x = new GroupStore();
            x.server(2, false);
            Steps.fill(x, 0, 2);
            x.server(2, true);
            Checks.refuses(Checks.NOT_THERE, () -> x.read(2, 0, 0, 0));
            Checks.answers(0, () -> x.count(18));
        });
        Checks.sentence("read: also if it isn't UP", () -> {
            GroupStore x = new GroupStore();
            Steps.fill(x, 0, 2);
            Steps.onlyUp(x, 0);
            for (int s = 0; s < 3; s++) {
                int server = s;
                Checks.answers(2, () -> x.read(server, 0, 0, 0));
                Checks.answers(1, () -> x.read(server, 0, 0, 1));
            }
            Checks.answers(0, () -> x.count(8));
        });
        Checks.sentence("read: None: not there", () -> {
            Run run = x -> {
                Steps.commitWrite(x, 0, 0, 0, 1);
                Steps.commitWrite(x, 0, 0, 5, 2);
            };
            Look.changesNothing(Checks.NOT_THERE, run, x -> x.read(0, 0, 5, 1));
            Look.changesNothing(Checks.NOT_THERE, run, x -> x.read(0, 0, 3, 0));
            Look.changesNothing(Checks.NOT_THERE, run, x -> x.read(0, 1, 0, 0));
            Look.changesNothing(Checks.NOT_THERE, x -> { }, x -> x.read(2, 3, 5, 0));
        });
        Checks.sentence("read: changes nothing", () -> {
            Run run = x -> {
                Steps.fill(x, 0, 2);
                x.lose(1, 2);
            };
            Look.sameBut(run, run.then(x -> x.read(0, 0, 0, 0)));
            Look.sameBut(run, run.then(x -> x.read(0, 0, 0, 1)));
        });
    }

    private static void logs() {
        Checks.sentence("log: the number of the entry with it (2; 0 without), 1 if CHOSEN (3), its number (4)", () -> {
            GroupStore x = new GroupStore();
            Steps.fill(x, 0, 1);
            Steps.write(x, 0, 1, 0, 7);
            x.lose(0, 5);
            Checks.refuses(Checks.NO_MAJORITY, () -> x.commit(0));
            Steps.logIs(x, 1, 0, 1, "1 1 1 1 1");
            Steps.logIs(x, 1, 0, 2, "2 2 2 0 0");
            Steps.logIs(x, 0, 0, 2, "2 0 0 0 0");
            Steps.logIs(x, 0, 0, 3, "0 0 0 0 0");
        });
        Checks.sentence("log: the EMPTY entry has number 0, ACCEPTED and CHOSEN as it may be", () -> {
            GroupStore x = new GroupStore();
            Steps.loseWrite(x, 0, 0, 0, 7);
            x.server(0, false);
            x.lose(0, 7);
            Checks.refuses(Checks.NO_MAJORITY, () -> x.catchUp(1, 0));
            Steps.logIs(x, 1, 0, 1, "2 2 0 0 0");
            Checks.answers(1, () -> x.catchUp(1, 0));
            Steps.logIs(x, 1, 0, 1, "6 6 0 1 0");
        });
        Checks.sentence("log: CHOSEN with another entry than the one ACCEPTED", () -> {
            GroupStore x = new GroupStore();
            Steps.write(x, 0, 1, 0, 9);
            Steps.loseWrite(x, 0, 0, 0, 7);
            x.lose(1, 1);
            x.commit(0);
            x.catchUp(0, 0);
            Steps.logIs(x, 0, 0, 1, "1 1 1 1 2");
        });
        Checks.sentence("log: position (1 .. 10): the first and the last", () -> {
            GroupStore x = new GroupStore();
            Steps.fill(x, 3);
            for (int p = 1; p <= 10; p++) {
                Steps.logIs(x, 2, 3, p, "1 1 " + p + " 1 " + p);
            }
            Checks.refuses(Checks.BAD, () -> x.log(2, 3, 0, 3));
            Checks.refuses(Checks.BAD, () -> x.log(2, 3, 11, 3));
        });
        Checks.sentence("log: of a server that isn't UP too; changes nothing", () -> {
            Run run = x -> {
                Steps.fill(x, 0, 1);
                Steps.onlyUp(x, 0);
                x.lose(1, 2);
            };
            Look.sameBut(run, run.then(x -> Steps.logIs(x, 2, 0, 1, "1 1 1 1 1")));
        });
    }

    private static void counts() {
        Checks.sentence("count: else -1", () -> {
            GroupStore x = new GroupStore();
            Steps.fill(x, 0, 1);
            int[] others = {-1, -2, 9, 22, 23, 26, 100, Integer.MIN_VALUE, Integer.MAX_VALUE};
            for (int what : others) {
                Checks.answers(-1, () -> x.count(what));
            }
        });
        Checks.sentence("count: 10 + 4 s + g: the EDGE of server s in group g: 10 and 21 are the ends", () -> {
            GroupStore x = new GroupStore();
            for (int g = 0; g < 4; g++) {
                Steps.fill(x, g, g);
                x.server(1, false);
                Steps.commitWrite(x, 0, g, 1, 1);
                Steps.onlyUp(x, 3);
                Steps.commitWrite(x, 0, g, 1, 2);
                Steps.onlyUp(x, 7);
            }
            for (int g = 0; g < 4; g++) {
                int group = g;
                Checks.answers(group + 2, () -> x.count(10 + group));
                Checks.answers(group, () -> x.count(14 + group));
                Checks.answers(group + 1, () -> x.count(18 + group));
            }
        });
        Checks.sentence("count: Servers UP (0), open transactions (1), messages in THE QUEUE (2)", () -> {
            GroupStore x = new GroupStore();
            Steps.commitMessage(x, 0, 1, 1);
            x.begin(0, 0, 0);
            x.begin(0, 0, 0);
            x.begin(3, 0, 0);
            x.server(1, false);
            Checks.same("2 2 1", x.count(0) + " " + x.count(1) + " " + x.count(2));
        });
        Checks.sentence("count: ROUNDS run (3): each, however it ends", () -> {
            GroupStore x = new GroupStore();
            Steps.write(x, 0, 0, 0, 1);
            Steps.write(x, 1, 0, 0, 1);
            Steps.write(x, 2, 0, 0, 1);
            x.lose(7, 0);
            Checks.refuses(Checks.NO_MAJORITY, () -> x.commit(0));
            Checks.answers(1, () -> x.count(3));
            x.lose(0, 7);
            Checks.refuses(Checks.NO_MAJORITY, () -> x.commit(1));
            Checks.answers(2, () -> x.count(3));
            Checks.refuses(Checks.CONFLICT, () -> x.commit(2));
            Checks.answers(3, () -> x.count(3));
            Steps.commitMessage(x, 0, 0, 1);
            Checks.answers(4, () -> x.count(3));
            x.deliver();
            Checks.answers(5, () -> x.count(3));
        });
        Checks.sentence("count: CONFLICTS (5) are not FULL ones", () -> {
            GroupStore x = new GroupStore();
            Steps.fill(x, 0);
            Steps.write(x, 0, 0, 0, 1);
            x.put(0, 1, 1);
            x.put(0, 2, 1);
            Checks.refuses(Checks.FULL, () -> x.put(0, 3, 1));
            x.send(0, 0, 1);
            x.send(0, 0, 1);
            Checks.refuses(Checks.FULL, () -> x.send(0, 0, 1));
            Checks.refuses(Checks.FULL, () -> x.commit(0));
            Steps.countsAre(x, "3 0 0 10 10 0 10 0 0");
        });
        Checks.sentence("count: NO MAJORITY thrown (8): by begin, commit, catchUp and deliver, each once", () -> {
            GroupStore x = new GroupStore();
            Steps.commitMessage(x, 0, 1, 1);
            Steps.write(x, 0, 0, 0, 1);
            Steps.onlyUp(x, 0);
            Checks.refuses(Checks.NO_MAJORITY, () -> x.begin(1, 0, 0));
            Checks.answers(1, () -> x.count(8));
            Checks.refuses(Checks.NO_MAJORITY, () -> x.commit(0));
            Checks.answers(2, () -> x.count(8));
            Checks.refuses(Checks.NO_MAJORITY, () -> x.catchUp(0, 0));
            Checks.answers(3, () -> x.count(8));
            Checks.refuses(Checks.NO_MAJORITY, () -> x.deliver());
            Checks.answers(4, () -> x.count(8));
        });
        Checks.sentence("count: changes nothing", () -> {
            Run run = x -> {
                Steps.commitMessage(x, 0, 1, 1);
                x.lose(1, 2);
            };
            Look.sameBut(run, run.then(x -> {
                for (int what = -1; what <= 22; what++) {
                    x.count(what);
                }
            }));
        });
    }

    private static void limits() {
        Checks.sentence("at most 512 calls: the greatest ballot that they can bring", () -> {
            GroupStore x = new GroupStore();
            x.begin(0, 2, 0);
            x.put(0, 0, 1);
            x.lose(0, 7);
            Checks.refuses(Checks.NO_MAJORITY, () -> x.commit(0));
            x.server(0, false);
            x.server(1, false);
            for (int i = 0; i < 504; i++) {
                Checks.refuses(Checks.NO_MAJORITY, () -> x.catchUp(2, 0));
            }
            Checks.answers(505, () -> x.count(8));
            Checks.answers(4 * 504 + 3, () -> x.log(2, 0, 1, 0));
        });
        Checks.sentence("at most 512 calls: all of them begin", () -> {
            GroupStore x = new GroupStore();
            for (int i = 0; i < 511; i++) {
                int t = i % 5;
                Checks.answers(0, () -> x.begin(t, t % 3, t % 4));
            }
            Checks.answers(5, () -> x.count(1));
        });
        Checks.sentence("at most 512 calls: all four logs full, each by entries with WRITES and MESSAGES", () -> {
            GroupStore x = new GroupStore();
            for (int p = 1; p <= 10; p++) {
                for (int g = 0; g < 4; g++) {
                    Steps.write(x, 0, p % 3, g, p % 6, p);
                    x.send(0, g, p);
                    x.send(0, 3 - g, p);
                    int position = p;
                    Checks.answers(position, () -> x.commit(0));
                }
            }
            Steps.countsAre(x, "3 0 80 40 40 0 40 0 0");
            for (int edge = 10; edge <= 21; edge++) {
                int which = edge;
                Checks.answers(10, () -> x.count(which));
            }
        });
    }
}
