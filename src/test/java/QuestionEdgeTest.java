/** The boundary cases of promises 6 to 8 and 11: key, ask, stands, meet. */
public final class QuestionEdgeTest {
    private static final int NONE = MastLog.NONE;
    private static final int GAP = MastLog.GAP;

    public static void main(String[] args) {
        Cases.run(QuestionEdgeTest.class);
    }

    /** 24 times v at both gauges. */
    private static MastLog bothFilled(int warmth, int pressure) {
        MastLog log = new MastLog();
        for (int i = 0; i < 24; i++) {
            log.read(0, warmth);
            log.read(1, pressure);
        }
        return log;
    }

    private static void dueMeet(Checks checks, String when, MastLog log, int... want) {
        for (int how = 0; how < 6; how++) {
            checks.due(when + ": meet(" + how + ")", log.meet(how), want[how]);
        }
    }

    static void promise06_key_takesTheEdgesAndAGap(Checks checks, int g) {
        MastLog log = new MastLog();
        for (int v : Edges.TOLD) {
            checks.due("key " + v, log.key(g, v), true);
            checks.due("look at key " + v, log.look(g, 5), v);
        }
        log.key(g, 4);
        checks.due("a gap behind a number", log.key(g, GAP), true);
        checks.due("look at the gap", log.look(g, 5), GAP);
    }

    static void promise06_key_refusesWhatIsNotTold(Checks checks, int g) {
        for (int v : Edges.NOT_TOLD) {
            checks.dueFalseEverywhere("key " + v, g, x -> x.key(g, v));
        }
    }

    static void promise06_key_refusesWhereThereIsNoSuchGauge(Checks checks, int g) {
        for (int none : Edges.NO_GAUGE) {
            checks.dueFalseEverywhere("key 7 of gauge " + none, g, x -> x.key(none, 7));
            checks.dueFalseEverywhere("key of gauge " + none + ", a gap", g, x -> x.key(none, GAP));
        }
    }

    static void promise06_key_eachGaugeHasItsOwn(Checks checks, int g) {
        MastLog log = Checks.logged(g, 3);
        log.read(1 - g, 3);
        log.key(g, 3);
        checks.due("its own", log.ask(g, 0, 4), 1);
        checks.due("the other has none yet", log.ask(1 - g, 0, 4), 0);
        log.key(1 - g, 4);
        checks.due("its own stays", log.ask(g, 0, 4), 1);
        checks.due("the other has its own", log.ask(1 - g, 0, 0), 1);
    }

    static void promise06_key_nothingElseChanges(Checks checks, int g) {
        for (Scene scene : Scene.values()) {
            checks.dueChangesOnly(scene + ": key 131072", scene.make(g), x -> x.key(g, 131072), "look(" + g + ", 5)");
            checks.dueChangesOnly(scene + ": key, a gap", scene.make(g), x -> x.key(g, GAP), "look(" + g + ", 5)");
        }
    }

    static void promise07_ask_theFirstAndTheLastWay(Checks checks, int g) {
        MastLog log = Scene.QUIET.make(g);
        checks.due("way 0", log.ask(g, 0, 4), 1);
        checks.due("way 9", log.ask(g, 9, 4), 3);
    }

    static void promise07_ask_noneWhereThereIsNoSuchWay(Checks checks, int g) {
        for (int way : Edges.NO_WAY) {
            for (int how = 0; how < 6; how++) {
                int asked = how;
                checks.dueNoneEverywhere("ask way " + way + ", how " + how, g, x -> x.ask(g, way, asked));
            }
        }
    }

    static void promise07_ask_theFirstAndTheLastHow(Checks checks, int g) {
        MastLog log = Scene.QUIET.make(g);
        checks.due("how 0", log.ask(g, 0, 0), 1);
        checks.due("how 5", log.ask(g, 0, 5), 3);
    }

    static void promise07_ask_noneWhereThereIsNoSuchHow(Checks checks, int g) {
        for (int how : Edges.NO_HOW) {
            for (int way = 0; way < 10; way++) {
                int asked = way;
                checks.dueNoneEverywhere("ask way " + way + ", how " + how, g, x -> x.ask(g, asked, how));
            }
        }
    }

    static void promise07_ask_noneWhereThereIsNoSuchGauge(Checks checks, int g) {
        for (int none : Edges.NO_GAUGE) {
            for (int way = 0; way < 10; way++) {
                int asked = way;
                checks.dueNoneEverywhere("ask gauge " + none + ", way " + way, g, x -> x.ask(none, asked, 5));
            }
        }
    }

    static void promise07_ask_byAKeyAtTheEdges(Checks checks, int g) {
        MastLog log = Checks.logged(g, -131072, 131072, GAP);
        log.key(g, 131072);
        checks.due("below the highest", log.ask(g, 0, 0), 1);
        checks.due("above the highest", log.ask(g, 0, 2), 0);
        checks.due("the same as the highest", log.ask(g, 8, 4), 1);
        log.key(g, -131072);
        checks.due("below the lowest", log.ask(g, 0, 0), 0);
        checks.due("above the lowest", log.ask(g, 0, 2), 1);
        checks.due("the same as the lowest", log.ask(g, 8, 4), 0);
    }

    static void promise07_ask_byAKeyThatIsAGap(Checks checks, int g) {
        MastLog log = Checks.logged(g, -131072, 131072, GAP);
        log.key(g, 3);
        log.key(g, GAP);
        for (int how = 0; how < 5; how++) {
            checks.due("holds by " + how, log.ask(g, 0, how), 0);
        }
        checks.due("not the same as a gap", log.ask(g, 0, 5), 3);
    }

    static void promise07_ask_changesNothing(Checks checks, int g) {
        for (Scene scene : Scene.values()) {
            checks.dueChangesOnly(scene + ": ask all", scene.make(g), x -> {
                for (int way = 0; way < 10; way++) {
                    for (int how = 0; how < 6; how++) {
                        x.ask(g, way, how);
                    }
                }
            });
        }
    }

    static void promise08_stands_theFirstAndTheLastPlaceOfAFullLog(Checks checks, int g) {
        MastLog log = Scene.FULL.make(g);
        checks.dueStands(log, g, 0, 23, "015");
        checks.dueStands(log, g, 23, 0, "235");
        checks.dueStands(log, g, 23, 23, "134");
    }

    // By how 5 a gap stands to anything: a place that is not there must not pass for one.
    static void promise08_stands_falseWhereThereIsNoPlaceI(Checks checks, int g) {
        for (Scene scene : Scene.values()) {
            for (int i : Edges.noPlace(scene.make(g).look(g, 0))) {
                for (int how = 3; how < 6; how++) {
                    checks.due(scene + ": stands from " + i, scene.make(g).stands(g, i, 0, how), false);
                    checks.due(scene + ": stands from and to " + i, scene.make(g).stands(g, i, i, how), false);
                }
            }
        }
    }

    static void promise08_stands_falseWhereThereIsNoPlaceJ(Checks checks, int g) {
        for (Scene scene : Scene.values()) {
            for (int j : Edges.noPlace(scene.make(g).look(g, 0))) {
                for (int how = 3; how < 6; how++) {
                    checks.due(scene + ": stands to " + j, scene.make(g).stands(g, 0, j, how), false);
                }
            }
        }
    }

    static void promise08_stands_falseInAnEmptyLog(Checks checks, int g) {
        checks.dueStands(new MastLog(), g, 0, 0, "");
        checks.dueStands(Checks.logged(1 - g, 1), g, 0, 0, "");
    }

    static void promise08_stands_falseWhereOneHasBeenDropped(Checks checks, int g) {
        MastLog log = Checks.logged(g, 1, 1);
        log.drop(g);
        checks.dueStands(log, g, 0, 1, "");
        checks.dueStands(log, g, 1, 0, "");
        checks.dueStands(log, g, 0, 0, "134");
    }

    static void promise08_stands_falseWhereThereIsNoSuchHow(Checks checks, int g) {
        MastLog log = Checks.logged(g, 1, 1, 2, GAP);
        for (int how : Edges.NO_HOW) {
            for (int j = 0; j < 4; j++) {
                checks.due("stands to place " + j + " by " + how, log.stands(g, 0, j, how), false);
                checks.due("a gap to place " + j + " by " + how, log.stands(g, 3, j, how), false);
            }
        }
    }

    static void promise08_stands_falseWhereThereIsNoSuchGauge(Checks checks, int g) {
        for (int none : Edges.NO_GAUGE) {
            for (Scene scene : Scene.values()) {
                checks.dueStands(scene.make(g), none, 0, 0, "");
                checks.dueStands(scene.make(g), none, 0, 1, "");
            }
        }
    }

    static void promise08_stands_changesNothing(Checks checks, int g) {
        checks.dueFalseEverywhere("stands at no place", g, x -> x.stands(g, 0, 24, 5));
        checks.dueFalseEverywhere("stands by no how", g, x -> x.stands(g, 0, 0, 6));
        checks.dueFalseEverywhere("stands at no gauge", g, x -> x.stands(2, 0, 0, 4));
        checks.dueChangesOnly("stands", Scene.QUIET.make(g), x -> x.stands(g, 0, 1, 5));
    }

    static void promise11_meet_theFirstAndTheLastHow(Checks checks) {
        MastLog log = bothFilled(1, 2);
        checks.due("how 0", log.meet(0), 24);
        checks.due("how 5", log.meet(5), 24);
    }

    static void promise11_meet_noneWhereThereIsNoSuchHow(Checks checks, int g) {
        for (int how : Edges.NO_HOW) {
            checks.dueNoneEverywhere("meet by " + how, g, x -> x.meet(how));
        }
    }

    static void promise11_meet_bothEmptyIsNought(Checks checks) {
        dueMeet(checks, "new", new MastLog(), 0, 0, 0, 0, 0, 0);
    }

    static void promise11_meet_oneEmptyIsNought(Checks checks, int g) {
        dueMeet(checks, "the other empty", Checks.logged(g, 1, GAP, 0), 0, 0, 0, 0, 0, 0);
        MastLog full = Scene.FULL.make(g);
        full.drop(1 - g);
        full.drop(1 - g);
        dueMeet(checks, "the other emptied", full, 0, 0, 0, 0, 0, 0);
    }

    static void promise11_meet_ofTwoFullLogs(Checks checks) {
        dueMeet(checks, "warmth below", bothFilled(-131072, 131072), 24, 24, 0, 0, 0, 24);
        dueMeet(checks, "warmth above", bothFilled(131072, 131071), 0, 0, 24, 24, 0, 24);
        dueMeet(checks, "the same", bothFilled(-131071, -131071), 0, 24, 0, 24, 24, 0);
        dueMeet(checks, "gaps", bothFilled(GAP, GAP), 0, 0, 0, 0, 0, 24);
    }

    static void promise11_meet_oneMoreReadingIsNoPlaceInBoth(Checks checks, int g) {
        MastLog log = Checks.logged(g, 1);
        log.read(1 - g, 1);
        dueMeet(checks, "one each", log, 0, 1, 0, 1, 1, 0);
        log.read(g, 1);
        dueMeet(checks, "two and one", log, 0, 1, 0, 1, 1, 0);
        log.read(1 - g, 1);
        dueMeet(checks, "two each", log, 0, 2, 0, 2, 2, 0);
    }

    static void promise11_meet_aDroppedReadingIsNoPlace(Checks checks, int g) {
        MastLog log = bothFilled(3, 3);
        log.drop(g);
        dueMeet(checks, "23 places", log, 0, 23, 0, 23, 23, 0);
    }

    static void promise11_meet_aGapAtOneOfBoth(Checks checks, int g) {
        MastLog log = Checks.logged(g, GAP);
        log.read(1 - g, 0);
        dueMeet(checks, "a gap and a number", log, 0, 0, 0, 0, 0, 1);
    }

    static void promise11_meet_warmthStandsToPressureNotTurnedRound(Checks checks) {
        MastLog log = Checks.logged(0, 1);
        log.read(1, 2);
        dueMeet(checks, "warmth one below", log, 1, 1, 0, 0, 0, 1);
        MastLog turned = Checks.logged(0, 2);
        turned.read(1, 1);
        dueMeet(checks, "warmth one above", turned, 0, 0, 1, 1, 0, 1);
    }

    static void promise11_meet_everyNumberOfBothIsTheSame(Checks checks) {
        for (int v : Edges.TOLD) {
            MastLog log = Checks.logged(0, v);
            log.read(1, v);
            checks.due("the same: " + v, log.meet(4), v == GAP ? 0 : 1);
        }
    }

    static void promise11_meet_changesNothing(Checks checks, int g) {
        for (Scene scene : Scene.values()) {
            checks.dueChangesOnly(scene + ": meet", scene.make(g), x -> x.meet(5));
        }
    }
}
