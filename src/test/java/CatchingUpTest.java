/** The boundary cases that "CATCHING UP", "EDGE" and catchUp name; begin and deliver catch up in the same way. */
public final class CatchingUpTest {
    private CatchingUpTest() {
    }

    public static void main(String[] args) {
        edges();
        ends();
        toldPositions();
        emptyRounds();
        endsItAll();
        catchUpCalls();
        Checks.finish();
    }

    private static void edges() {
        Checks.sentence("EDGE: the greatest position up to which it knows all as CHOSEN", () -> {
            GroupStore x = new GroupStore();
            missesFirst(x);
            Steps.logIs(x, 2, 0, 2, "1 1 2 1 2");
            Steps.logIs(x, 2, 0, 3, "1 1 3 1 3");
            Checks.answers(0, () -> x.count(18));
            Checks.refuses(Checks.NOT_THERE, () -> x.read(2, 0, 0, 0));
            Checks.refuses(Checks.NOT_THERE, () -> x.read(2, 0, 0, 2));
        });
        Checks.sentence("EDGE: a gap that is closed brings it to the greatest position known behind it", () -> {
            GroupStore x = new GroupStore();
            Steps.write(x, 0, 1, 5, 9);
            missesFirst(x);
            Checks.refuses(Checks.CONFLICT, () -> x.commit(0));
            Checks.answers(3, () -> x.count(18));
            Checks.answers(3, () -> x.read(2, 0, 0, 0));
        });
        Checks.sentence("EDGE: of one group and one server", () -> {
            GroupStore x = new GroupStore();
            x.server(1, false);
            Steps.fill(x, 2, 3);
            for (int what = 10; what <= 21; what++) {
                int which = what;
                Checks.answers(what == 12 || what == 20 ? 3 : 0, () -> x.count(which));
            }
        });
        Checks.sentence("for each position from its EDGE + 1 on: with nothing behind the EDGE nothing is done", () -> {
            Run run = x -> {
                Steps.fill(x, 0, 2);
                x.lose(6, 6);
            };
            Look.sameBut(run, run.then(x -> Checks.answers(2, () -> x.catchUp(0, 0))));
            Look.sameBut(run, run.then(x -> Checks.answers(0, () -> x.catchUp(0, 1))));
        });
        Checks.sentence("for each position from its EDGE + 1 on: those behind a gap too, known ones without a ROUND",
                () -> {
                    Look.changes(CatchingUpTest::missesFirst, x -> x.catchUp(2, 0), "count 18: 0 -> 3",
                            "log 2 0 1: 0 0 0 0 0 -> 0 0 0 1 1", "read 2 0 0 0: none -> 3", "read 2 0 0 1: none -> 1",
                            "read 2 0 0 2: none -> 2", "read 2 0 0 3: none -> 3");
                });
    }

    /** Server 2 knows positions 2 and 3 of group 0 and not position 1. */
    private static void missesFirst(GroupStore x) {
        x.lose(4, 4);
        Steps.fill(x, 0, 3);
    }

    private static void ends() {
        Checks.sentence("up to the greatest END: a position that one server alone has ACCEPTED something for", () -> {
            GroupStore x = new GroupStore();
            Steps.loseWrite(x, 0, 0, 0, 7);
            Checks.answers(1, () -> x.catchUp(2, 0));
            Steps.logIs(x, 2, 0, 1, "3 3 1 1 1");
        });
        Checks.sentence("the greatest position that any server has ACCEPTED something for: also one that is not UP",
                () -> {
                    GroupStore x = new GroupStore();
                    Steps.loseWrite(x, 0, 0, 0, 7);
                    x.server(0, false);
                    Checks.answers(1, () -> x.catchUp(1, 0));
                    Steps.logIs(x, 1, 0, 1, "2 2 0 1 0");
                });
        Checks.sentence("the greatest position that any server knows as CHOSEN: also one that is not UP", () -> {
            GroupStore x = new GroupStore();
            x.lose(4, 4);
            Steps.commitWrite(x, 0, 0, 0, 7);
            Steps.onlyUp(x, 4);
            Checks.refuses(Checks.NO_MAJORITY, () -> x.catchUp(2, 0));
            Checks.answers(2, () -> x.count(3));
            Steps.logIs(x, 2, 0, 1, "3 0 0 0 0");
        });
        Checks.sentence("END: a PROMISE alone is none", () -> {
            GroupStore x = new GroupStore();
            Steps.write(x, 0, 0, 0, 7);
            x.lose(7, 0);
            Checks.refuses(Checks.NO_MAJORITY, () -> x.commit(0));
            Checks.answers(0, () -> x.catchUp(1, 0));
            Checks.answers(0, () -> x.catchUp(0, 0));
            Checks.answers(0, () -> x.begin(0, 0, 0));
            Checks.answers(1, () -> x.count(3));
        });
        Checks.sentence("END of the group: that of another group does not count", () -> {
            GroupStore x = new GroupStore();
            Steps.loseWrite(x, 0, 1, 0, 7);
            Checks.answers(0, () -> x.catchUp(2, 0));
            Checks.answers(0, () -> x.catchUp(2, 2));
            Checks.answers(1, () -> x.count(3));
        });
        Checks.sentence("POSITION 1 .. 10: the last one that is told", () -> {
            GroupStore x = new GroupStore();
            x.server(2, false);
            Steps.fill(x, 0);
            x.server(2, true);
            Checks.answers(10, () -> x.catchUp(2, 0));
            Checks.answers(10, () -> x.read(2, 0, 0, 10));
            Checks.answers(10, () -> x.count(3));
            Checks.answers(10, () -> x.catchUp(2, 0));
        });
        Checks.sentence("POSITION 1 .. 10: the last one by a ROUND", () -> {
            GroupStore x = new GroupStore();
            Steps.fill(x, 0, 9);
            Steps.loseWrite(x, 0, 0, 0, 7);
            Checks.answers(10, () -> x.catchUp(2, 0));
            Steps.logIs(x, 2, 0, 10, "3 3 10 1 10");
            Checks.answers(11, () -> x.count(3));
        });
    }

    private static void toldPositions() {
        Checks.sentence("if a server that is UP knows it as CHOSEN, s does then: no ROUND, PROMISE and ACCEPTED stay",
                () -> {
                    Run run = x -> {
                        x.server(2, false);
                        Steps.fill(x, 0, 2);
                        x.server(2, true);
                    };
                    Look.changes(run, x -> x.catchUp(2, 0), "count 18: 0 -> 2", "log 2 0 1: 0 0 0 0 0 -> 0 0 0 1 1",
                            "log 2 0 2: 0 0 0 0 0 -> 0 0 0 1 2", "read 2 0 0 0: none -> 2", "read 2 0 0 1: none -> 1",
                            "read 2 0 0 2: none -> 2");
                });
        Checks.sentence("if a server that is UP knows it as CHOSEN: what s has ACCEPTED there stays", () -> {
            GroupStore x = new GroupStore();
            Steps.write(x, 0, 1, 0, 9);
            Steps.loseWrite(x, 0, 0, 0, 7);
            x.lose(1, 1);
            Checks.answers(1, () -> x.commit(0));
            Checks.answers(1, () -> x.catchUp(0, 0));
            Steps.logIs(x, 0, 0, 1, "1 1 1 1 2");
            Checks.answers(9, () -> x.read(0, 0, 0, 0));
        });
        Checks.sentence("if a server that is UP knows it as CHOSEN: any one of them is enough, whichever it is", () -> {
            for (int behind = 0; behind < 3; behind++) {
                for (int teacher = 0; teacher < 3; teacher++) {
                    if (teacher != behind) {
                        GroupStore x = new GroupStore();
                        int s = behind;
                        x.lose(0, 1 << s);
                        Steps.commitWrite(x, teacher, 0, 0, 7);
                        Steps.onlyUp(x, 1 << s | 1 << teacher);
                        Checks.answers(1, () -> x.catchUp(s, 0));
                        Checks.answers(1, () -> x.count(3));
                    }
                }
            }
        });
        Checks.sentence("if a server that is UP knows it as CHOSEN: not UP, it tells nothing", () -> {
            GroupStore x = new GroupStore();
            x.server(2, false);
            Steps.commitWrite(x, 0, 0, 0, 7);
            Steps.onlyUp(x, 4);
            Checks.refuses(Checks.NO_MAJORITY, () -> x.catchUp(2, 0));
            Checks.answers(0, () -> x.count(18));
            Checks.answers(2, () -> x.count(3));
        });
    }

    private static void emptyRounds() {
        Checks.sentence("else a ROUND with the EMPTY entry: what a REACHED one has ACCEPTED is made good", () -> {
            Run run = x -> Steps.loseWrite(x, 0, 0, 3, 7);
            Look.changes(run, x -> x.catchUp(1, 0), "count 3: 1 -> 2", "count 10: 0 -> 1", "count 14: 0 -> 1",
                    "count 18: 0 -> 1", "log 0 0 1: 1 1 1 0 0 -> 2 2 1 1 1", "log 1 0 1: 1 0 0 0 0 -> 2 2 1 1 1",
                    "log 2 0 1: 1 0 0 0 0 -> 2 2 1 1 1", "read 0 0 3 0: none -> 7", "read 0 0 3 1: none -> 7",
                    "read 1 0 3 0: none -> 7", "read 1 0 3 1: none -> 7", "read 2 0 3 0: none -> 7",
                    "read 2 0 3 1: none -> 7");
        });
        Checks.sentence("else a ROUND with the EMPTY entry: it writes nothing and takes no number", () -> {
            Run run = x -> {
                Steps.commitWrite(x, 0, 0, 3, 6);
                Steps.loseWrite(x, 0, 0, 3, 7);
                x.server(0, false);
            };
            Look.changes(run, x -> x.catchUp(1, 0), "count 3: 2 -> 3", "count 14: 1 -> 2", "count 18: 1 -> 2",
                    "log 1 0 2: 1 0 0 0 0 -> 2 2 0 1 0", "log 2 0 2: 1 0 0 0 0 -> 2 2 0 1 0",
                    "read 1 0 3 2: none -> 6", "read 2 0 3 2: none -> 6");
        });
        Checks.sentence("else a ROUND with the EMPTY entry: what only a lost server has ACCEPTED gives way", () -> {
            GroupStore x = new GroupStore();
            Steps.loseWrite(x, 0, 0, 0, 7);
            x.lose(1, 0);
            Checks.answers(1, () -> x.catchUp(1, 0));
            for (int s = 0; s < 3; s++) {
                Steps.logIs(x, s, 0, 1, "2 2 0 1 0");
            }
        });
        Checks.sentence("EMPTY entry: the next one's number goes on from the last that was given", () -> {
            GroupStore x = new GroupStore();
            Steps.loseWrite(x, 0, 0, 0, 7);
            x.server(0, false);
            x.catchUp(1, 0);
            Steps.commitWrite(x, 1, 0, 0, 8);
            Steps.logIs(x, 1, 0, 2, "2 2 2 1 2");
        });
    }

    private static void endsItAll() {
        Checks.sentence("NO MAJORITY ends it all, what was caught up before stays", () -> {
            // Positions 1 and 2 are told, position 3 needs a round.
            Run run = x -> {
                x.server(2, false);
                Steps.fill(x, 0, 2);
                Steps.loseWrite(x, 0, 0, 0, 3);
                x.server(2, true);
                x.lose(3, 0);
            };
            GroupStore x = new GroupStore();
            run.on(x);
            Checks.refuses(Checks.NO_MAJORITY, () -> x.catchUp(2, 0));
            String[] due = {"count 3: 3 -> 4", "count 8: 1 -> 2", "count 18: 0 -> 2",
                "log 2 0 1: 0 0 0 0 0 -> 0 0 0 1 1", "log 2 0 2: 0 0 0 0 0 -> 0 0 0 1 2",
                "log 2 0 3: 0 0 0 0 0 -> 3 0 0 0 0", "read 2 0 0 0: none -> 2", "read 2 0 0 1: none -> 1",
                "read 2 0 0 2: none -> 2"};
            Look.changes(run, y -> y.catchUp(2, 0), due);
            Look.changes(run, y -> y.begin(1, 2, 0), due);
        });
        Checks.sentence("NO MAJORITY ends it all: no further position is tried", () -> {
            Run run = x -> {
                x.server(2, false);
                Steps.fill(x, 0, 3);
                Steps.onlyUp(x, 4);
            };
            Look.changes(run, y -> y.catchUp(2, 0), "count 3: 3 -> 4", "count 8: 0 -> 1",
                    "log 2 0 1: 0 0 0 0 0 -> 3 0 0 0 0");
        });
        Checks.sentence("NO MAJORITY in the second half ends it all, what was ACCEPTED stays", () -> {
            Run run = x -> {
                Steps.fill(x, 0, 1);
                Steps.loseWrite(x, 0, 0, 0, 3);
                x.lose(0, 3);
            };
            Look.changes(run, y -> y.catchUp(2, 0), "count 3: 2 -> 3", "count 8: 1 -> 2",
                    "log 0 0 2: 1 1 2 0 0 -> 3 1 2 0 0", "log 1 0 2: 1 0 0 0 0 -> 3 0 0 0 0",
                    "log 2 0 2: 1 0 0 0 0 -> 3 3 2 0 0");
        });
        Checks.sentence("NO MAJORITY ends it all: caught up again it goes on from there", () -> {
            GroupStore x = new GroupStore();
            x.server(2, false);
            Steps.fill(x, 0, 2);
            Steps.loseWrite(x, 0, 0, 0, 3);
            x.server(2, true);
            x.lose(3, 0);
            Checks.refuses(Checks.NO_MAJORITY, () -> x.catchUp(2, 0));
            Checks.answers(3, () -> x.catchUp(2, 0));
            Steps.logIs(x, 2, 0, 3, "7 7 3 1 3");
        });
    }

    private static void catchUpCalls() {
        Checks.sentence("catchUp: Server s, which must be UP (else NO MAJORITY)", () -> {
            Run run = x -> {
                x.server(2, false);
                Steps.fill(x, 0, 2);
                x.lose(1, 2);
            };
            GroupStore x = new GroupStore();
            run.on(x);
            Checks.refuses(Checks.NO_MAJORITY, () -> x.catchUp(2, 0));
            Checks.refuses(Checks.NO_MAJORITY, () -> x.catchUp(2, 3));
            Look.sameBut(run, run.then(Run.quietly(y -> y.catchUp(2, 0))), "count 8: 0 -> 1");
            Look.sameBut(run, run.then(Run.quietly(y -> y.catchUp(2, 3))), "count 8: 0 -> 1");
        });
        Checks.sentence("catchUp: Answers its EDGE", () -> {
            GroupStore x = new GroupStore();
            Checks.answers(0, () -> x.catchUp(0, 0));
            missesFirst(x);
            Checks.answers(3, () -> x.catchUp(0, 0));
            Checks.answers(3, () -> x.catchUp(2, 0));
            Checks.answers(0, () -> x.catchUp(2, 3));
        });
        Checks.sentence("catchUp: in group g, no other group is touched", () -> {
            GroupStore x = new GroupStore();
            x.server(2, false);
            for (int g = 0; g < 4; g++) {
                Steps.commitWrite(x, 0, g, 0, g);
            }
            x.server(2, true);
            Checks.answers(1, () -> x.catchUp(2, 1));
            Checks.same("0 1 0 0", x.count(18) + " " + x.count(19) + " " + x.count(20) + " " + x.count(21));
        });
    }
}
