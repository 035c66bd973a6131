/** The boundary cases of promises 1 to 5, 14 and 15: a new object, read, drop, limit, move, at, look. */
public final class LogEdgeTest {
    private static final int NONE = MastLog.NONE;
    private static final int GAP = MastLog.GAP;

    public static void main(String[] args) {
        Cases.run(LogEdgeTest.class);
    }

    static void promise01_new_bothLogsAreEmpty(Checks checks, int g) {
        MastLog log = new MastLog();
        checks.dueLog("new", log, g);
        for (int i : Edges.noPlace(0)) {
            checks.due("new: at " + i, log.at(g, i), NONE);
        }
    }

    static void promise01_new_highLowUpperLowerAreGaps(Checks checks, int g) {
        MastLog log = new MastLog();
        for (int what = 1; what < 5; what++) {
            checks.due("new: look " + what, log.look(g, what), GAP);
        }
    }

    static void promise01_new_theAlarmsAreOffAndNeverRang(Checks checks, int g) {
        MastLog log = new MastLog();
        checks.due("new: the alarm", log.look(g, 6), 0);
        checks.due("new: how often it rang", log.look(g, 7), 0);
    }

    static void promise01_new_thereAreNoMarks(Checks checks) {
        checks.dueMarks("new", new MastLog(), "");
    }

    static void promise01_new_thereIsNoOrder(Checks checks) {
        checks.dueOrder("new", new MastLog());
    }

    static void promise01_new_theKeyIsAGap(Checks checks, int g) {
        MastLog log = Checks.logged(g, -131072, 0, 131072, GAP);
        checks.due("the key", log.look(g, 5), GAP);
        for (int how = 0; how < 6; how++) {
            checks.due("how many stand so to it: " + how, log.ask(g, 0, how), how == 5 ? 4 : 0);
        }
    }

    static void promise01_new_besideAnotherObjectToo(Checks checks, int g) {
        MastLog other = Scene.FULL.make(g);
        MastLog log = new MastLog();
        checks.dueLook("beside another", log, g, 0, GAP, GAP, GAP, GAP, GAP, 0, 0);
        checks.dueMarks("beside another", log, "");
        checks.dueOrder("beside another", log);
        checks.dueChangesOnly("read at a new one", other, x -> log.read(g, 131072));
    }

    static void promise02_read_takesTheLowestTheHighestAndAGap(Checks checks, int g) {
        MastLog log = new MastLog();
        checks.due("the lowest", log.read(g, -131072), 1);
        checks.due("the highest", log.read(g, 131072), 2);
        checks.due("a gap", log.read(g, GAP), 3);
        checks.dueLog("the edges", log, g, -131072, 131072, GAP);
        checks.dueLook("the edges", log, g, 3, 131072, -131072);
    }

    static void promise02_read_refusesWhatIsNotTold(Checks checks, int g) {
        for (int v : Edges.NOT_TOLD) {
            checks.dueNoneEverywhere("read of " + v, g, x -> x.read(g, v));
        }
    }

    static void promise02_read_refusesWhereThereIsNoSuchGauge(Checks checks, int g) {
        int[] told = {GAP, 0, 131072};
        for (int none : Edges.NO_GAUGE) {
            for (int v : told) {
                checks.dueNoneEverywhere("read at gauge " + none + " of " + v, g, x -> x.read(none, v));
            }
        }
    }

    static void promise02_read_answersHowManyThereAreFrom1To24(Checks checks, int g) {
        MastLog log = new MastLog();
        for (int i = 0; i < 24; i++) {
            checks.due("read " + i, log.read(g, i % 5 == 2 ? GAP : i * 7 - 60), i + 1);
        }
        checks.dueLook("full", log, g, 24, 101, -60);
    }

    static void promise02_read_takesThe24th(Checks checks, int g) {
        MastLog log = Checks.filled(g, 0, 1);
        checks.due("drop of the 24th", log.drop(g), 23);
        checks.due("a 24th", log.read(g, 131072), 24);
        checks.due("at place 23", log.at(g, 23), 131072);
        checks.due("at place 24", log.at(g, 24), NONE);
        checks.due("high", log.look(g, 1), 131072);
    }

    // Beyond the limits, so that a refused one that is logged all the same would move HIGH or LOW and ring.
    static void promise02_read_refusesA25th(Checks checks, int g) {
        int[] told = {-131072, -101, 0, 101, 131072, GAP};
        for (int v : told) {
            checks.dueNone("a 25th: " + v, Scene.FULL.make(g), x -> x.read(g, v));
        }
    }

    static void promise02_read_aRefused25thLeavesTheAlarmOn(Checks checks, int g) {
        MastLog log = Scene.FULL.make(g);
        log.drop(g);
        log.read(g, 101);
        checks.dueNone("a 25th within the limits", log, x -> x.read(g, 0));
        checks.due("the alarm", log.look(g, 6), 1);
    }

    static void promise02_read_takesOneAgainBehindARefusalAndADrop(Checks checks, int g) {
        MastLog log = Checks.filled(g, 0, 1);
        checks.due("a 25th", log.read(g, 50), NONE);
        checks.due("drop", log.drop(g), 23);
        checks.due("a 24th", log.read(g, 51), 24);
        checks.due("a 25th again", log.read(g, 52), NONE);
        checks.due("at place 23", log.at(g, 23), 51);
    }

    static void promise02_read_aFullGaugeLeavesTheOtherOpen(Checks checks, int g) {
        MastLog log = Checks.filled(g, 0, 1);
        checks.due("the other's first", log.read(1 - g, 7), 1);
        checks.dueLog("the other", log, 1 - g, 7);
        checks.due("a 25th", log.read(g, 7), NONE);
    }

    static void promise03_drop_answersWhatItWasAtTheEdges(Checks checks, int g) {
        for (int v : Edges.TOLD) {
            MastLog log = Checks.logged(g, 3, v);
            checks.due("drop of " + v, log.drop(g), v);
            checks.dueLog("behind the drop of " + v, log, g, 3);
        }
    }

    static void promise03_drop_ofTheOnlyOneLeavesNone(Checks checks, int g) {
        MastLog log = Checks.logged(g, 3);
        checks.due("drop", log.drop(g), 3);
        checks.dueLog("behind it", log, g);
        checks.dueNone("drop again", log, x -> x.drop(g));
    }

    static void promise03_drop_ofAnEmptyLogIsNone(Checks checks, int g) {
        checks.dueNone("drop of a new one", new MastLog(), x -> x.drop(g));
        MastLog other = Checks.logged(1 - g, 3);
        checks.dueNone("drop beside one that is not empty", other, x -> x.drop(g));
        checks.due("read behind it", other.read(g, 4), 1);
        checks.dueLog("read behind it", other, g, 4);
    }

    static void promise03_drop_ofAllOfAFullLog(Checks checks, int g) {
        MastLog log = Checks.filled(g, 0, 1);
        for (int i = 23; i >= 0; i--) {
            checks.due("drop of place " + i, log.drop(g), i);
            checks.due("how many are left", log.look(g, 0), i);
        }
        checks.due("drop of none", log.drop(g), NONE);
    }

    static void promise03_drop_noneWhereThereIsNoSuchGauge(Checks checks, int g) {
        for (int none : Edges.NO_GAUGE) {
            checks.dueNoneEverywhere("drop at gauge " + none, g, x -> x.drop(none));
        }
    }

    static void promise03_drop_highAndLowStay(Checks checks, int g) {
        MastLog log = Checks.logged(g, 0, 131072, -131072);
        log.drop(g);
        checks.dueLook("the lowest has gone", log, g, 2, 131072, -131072);
        log.drop(g);
        checks.dueLook("the highest has gone", log, g, 1, 131072, -131072);
        log.drop(g);
        checks.dueLook("all have gone", log, g, 0, 131072, -131072);
        log.read(g, 5);
        checks.dueLook("the first one again", log, g, 1, 131072, -131072);
    }

    static void promise03_drop_theAlarmStaysOn(Checks checks, int g) {
        MastLog log = Scene.ALARMED.make(g);
        checks.due("drop of the one beyond", log.drop(g), 101);
        checks.dueLook("behind it", log, g, 4, 101, -7, 100, -100, 5, 1, 1);
        log.read(g, 102);
        checks.due("how often it rang", log.look(g, 7), 1);
    }

    static void promise03_drop_theAlarmStaysOff(Checks checks, int g) {
        MastLog log = Scene.ALARMED.make(g);
        log.read(g, 0);
        checks.due("drop of the one within", log.drop(g), 0);
        checks.dueLook("behind it", log, g, 5, 101, -7, 100, -100, 5, 0, 1);
    }

    static void promise03_drop_nothingElseGoes(Checks checks, int g) {
        checks.dueChangesOnly("drop", Scene.QUIET.make(g), x -> x.drop(g), "look(" + g + ", 0)", "at(" + g + ", 3)");
        checks.dueChangesOnly("drop", Scene.FULL.make(g), x -> x.drop(g), "look(" + g + ", 0)", "at(" + g + ", 23)");
    }

    static void promise04_limit_takesTheEdgesAndAGap(Checks checks, int g) {
        for (int v : Edges.TOLD) {
            MastLog log = new MastLog();
            checks.due("upper " + v, log.limit(g, true, v), true);
            checks.dueLook("upper " + v, log, g, 0, GAP, GAP, v, GAP);
            MastLog other = new MastLog();
            checks.due("lower " + v, other.limit(g, false, v), true);
            checks.dueLook("lower " + v, other, g, 0, GAP, GAP, GAP, v);
        }
    }

    static void promise04_limit_refusesWhatIsNotTold(Checks checks, int g) {
        for (int v : Edges.NOT_TOLD) {
            checks.dueFalseEverywhere("upper " + v, g, x -> x.limit(g, true, v));
            checks.dueFalseEverywhere("lower " + v, g, x -> x.limit(g, false, v));
        }
    }

    static void promise04_limit_refusesWhereThereIsNoSuchGauge(Checks checks, int g) {
        for (int none : Edges.NO_GAUGE) {
            checks.dueFalseEverywhere("upper of gauge " + none, g, x -> x.limit(none, true, 20));
            checks.dueFalseEverywhere("lower of gauge " + none, g, x -> x.limit(none, false, -20));
            checks.dueFalseEverywhere("open upper of gauge " + none, g, x -> x.limit(none, true, GAP));
        }
    }

    static void promise04_limit_lowerSameAsUpperIsTakenOneAboveIsRefused(Checks checks, int g) {
        int[] uppers = {-131072, -1, 0, 131071};
        for (int upper : uppers) {
            MastLog log = new MastLog();
            log.limit(g, true, upper);
            checks.dueFalse("lower above an upper of " + upper, log, x -> x.limit(g, false, upper + 1));
            checks.due("lower the same as upper", log.limit(g, false, upper), true);
            checks.dueFalse("lower above both", log, x -> x.limit(g, false, upper + 1));
            checks.dueLook("behind the refusal", log, g, 0, GAP, GAP, upper, upper);
        }
    }

    static void promise04_limit_upperSameAsLowerIsTakenOneBelowIsRefused(Checks checks, int g) {
        int[] lowers = {-131071, 0, 1, 131072};
        for (int lower : lowers) {
            MastLog log = new MastLog();
            log.limit(g, false, lower);
            checks.dueFalse("upper below a lower of " + lower, log, x -> x.limit(g, true, lower - 1));
            checks.due("upper the same as lower", log.limit(g, true, lower), true);
            checks.dueFalse("upper below both", log, x -> x.limit(g, true, lower - 1));
            checks.dueLook("behind the refusal", log, g, 0, GAP, GAP, lower, lower);
        }
    }

    static void promise04_limit_anyLowerGoesWithAnOpenUpper(Checks checks, int g) {
        MastLog log = new MastLog();
        for (int v : Edges.TOLD) {
            checks.due("lower " + v, log.limit(g, false, v), true);
            checks.due("look at lower", log.look(g, 4), v);
        }
    }

    static void promise04_limit_anyUpperGoesWithAnOpenLower(Checks checks, int g) {
        MastLog log = new MastLog();
        for (int v : Edges.TOLD) {
            checks.due("upper " + v, log.limit(g, true, v), true);
            checks.due("look at upper", log.look(g, 3), v);
        }
    }

    static void promise04_limit_aGapOpensWhateverTheOtherIs(Checks checks, int g) {
        int[] both = {-131072, 0, 131072};
        for (int v : both) {
            MastLog log = new MastLog();
            log.limit(g, true, v);
            log.limit(g, false, v);
            checks.due("upper opens", log.limit(g, true, GAP), true);
            checks.dueLook("upper opens", log, g, 0, GAP, GAP, GAP, v);
            checks.due("lower opens too", log.limit(g, false, GAP), true);
            checks.dueLook("lower opens too", log, g, 0, GAP, GAP, GAP, GAP);
        }
    }

    static void promise04_limit_theOtherGaugesLimitsDoNotCount(Checks checks, int g) {
        MastLog log = new MastLog();
        log.limit(1 - g, true, 0);
        log.limit(1 - g, false, 0);
        checks.due("lower above the other's upper", log.limit(g, false, 1), true);
        checks.due("upper above the other's lower", log.limit(g, true, 1), true);
        checks.dueLook("the other", log, 1 - g, 0, GAP, GAP, 0, 0);
    }

    static void promise04_limit_theAlarmStaysOff(Checks checks, int g) {
        MastLog log = Scene.QUIET.make(g);
        checks.dueChangesOnly("upper below what was read", log, x -> x.limit(g, true, 8), "look(" + g + ", 3)");
        checks.due("upper", log.look(g, 3), 8);
        MastLog other = Scene.QUIET.make(g);
        checks.dueChangesOnly("lower above what was read", other, x -> x.limit(g, false, 10), "look(" + g + ", 4)");
        checks.due("lower", other.look(g, 4), 10);
    }

    static void promise04_limit_theAlarmStaysOn(Checks checks, int g) {
        MastLog log = Scene.ALARMED.make(g);
        checks.dueChangesOnly("upper above what was read", log, x -> x.limit(g, true, 131072), "look(" + g + ", 3)");
        checks.due("the alarm", log.look(g, 6), 1);
        MastLog other = Scene.ALARMED.make(g);
        checks.dueChangesOnly("upper opens", other, x -> x.limit(g, true, GAP), "look(" + g + ", 3)");
        checks.due("the alarm", other.look(g, 6), 1);
    }

    static void promise05_move_toItsOwnPlaceIsTrueAndMovesNothing(Checks checks, int g) {
        for (int i = 0; i < 24; i += 23) {
            int place = i;
            checks.dueChangesOnly("move to its own place " + i, Scene.FULL.make(g),
                x -> checks.due("move to its own place " + place, x.move(g, place, place), true));
        }
        MastLog one = Checks.logged(g, 6);
        checks.due("move of the only one", one.move(g, 0, 0), true);
        checks.dueLog("move of the only one", one, g, 6);
    }

    static void promise05_move_firstToLastOfAFullLog(Checks checks, int g) {
        MastLog log = Checks.filled(g, 0, 1);
        checks.due("move", log.move(g, 0, 23), true);
        for (int i = 0; i < 23; i++) {
            checks.due("at " + i, log.at(g, i), i + 1);
        }
        checks.due("at 23", log.at(g, 23), 0);
    }

    static void promise05_move_lastToFirstOfAFullLog(Checks checks, int g) {
        MastLog log = Checks.filled(g, 0, 1);
        checks.due("move", log.move(g, 23, 0), true);
        for (int i = 1; i < 24; i++) {
            checks.due("at " + i, log.at(g, i), i - 1);
        }
        checks.due("at 0", log.at(g, 0), 23);
    }

    static void promise05_move_thoseOutsideStay(Checks checks, int g) {
        MastLog log = Checks.logged(g, 0, 1, 2, 3, 4, 5);
        log.move(g, 1, 4);
        checks.dueLog("move(1, 4)", log, g, 0, 2, 3, 4, 1, 5);
        log.move(g, 4, 1);
        checks.dueLog("move(4, 1)", log, g, 0, 1, 2, 3, 4, 5);
        log.move(g, 2, 3);
        checks.dueLog("move(2, 3)", log, g, 0, 1, 3, 2, 4, 5);
        log.move(g, 5, 4);
        checks.dueLog("move(5, 4)", log, g, 0, 1, 3, 2, 5, 4);
    }

    static void promise05_move_gapsMoveAsNumbersDo(Checks checks, int g) {
        MastLog log = Checks.logged(g, GAP, 1, GAP, 2);
        log.move(g, 0, 3);
        checks.dueLog("move(0, 3)", log, g, 1, GAP, 2, GAP);
        log.move(g, 2, 0);
        checks.dueLog("move(2, 0)", log, g, 2, 1, GAP, GAP);
    }

    static void promise05_move_refusesFromNoSuchPlace(Checks checks, int g) {
        for (Scene scene : Scene.values()) {
            for (int i : Edges.noPlace(scene.make(g).look(g, 0))) {
                checks.dueFalse(scene + ": move from " + i, scene.make(g), x -> x.move(g, i, 0));
            }
        }
    }

    static void promise05_move_refusesToNoSuchPlace(Checks checks, int g) {
        for (Scene scene : Scene.values()) {
            for (int j : Edges.noPlace(scene.make(g).look(g, 0))) {
                checks.dueFalse(scene + ": move to " + j, scene.make(g), x -> x.move(g, 0, j));
                checks.dueFalse(scene + ": move from and to " + j, scene.make(g), x -> x.move(g, j, j));
            }
        }
    }

    static void promise05_move_refusesInAnEmptyLog(Checks checks, int g) {
        checks.dueFalse("move in a new one", new MastLog(), x -> x.move(g, 0, 0));
        checks.dueFalse("move beside a full one", Checks.filled(1 - g, 0, 1), x -> x.move(g, 0, 0));
    }

    static void promise05_move_refusesWhereThereIsNoSuchGauge(Checks checks, int g) {
        for (int none : Edges.NO_GAUGE) {
            checks.dueFalseEverywhere("move at gauge " + none, g, x -> x.move(none, 0, 1));
            checks.dueFalseEverywhere("move to its own place at gauge " + none, g, x -> x.move(none, 0, 0));
        }
    }

    static void promise05_move_nothingButTheLogMoves(Checks checks, int g) {
        checks.dueChangesOnly("move", Scene.FULL.make(g), x -> x.move(g, 23, 0), "at(" + g + ", ");
        checks.dueChangesOnly("move", Scene.ALARMED.make(g), x -> x.move(g, 0, 4), "at(" + g + ", ");
    }

    static void promise14_at_theFirstAndTheLastPlaceOfAFullLog(Checks checks, int g) {
        MastLog log = Checks.filled(g, 0, 1);
        checks.due("at 0", log.at(g, 0), 0);
        checks.due("at 23", log.at(g, 23), 23);
        checks.due("at 24", log.at(g, 24), NONE);
        checks.due("at -1", log.at(g, -1), NONE);
    }

    static void promise14_at_theEdgesAsTold(Checks checks, int g) {
        checks.dueLog("the edges", Checks.logged(g, Edges.TOLD), g, Edges.TOLD);
    }

    static void promise14_at_noneWhereThereIsNoSuchPlace(Checks checks, int g) {
        for (Scene scene : Scene.values()) {
            for (int i : Edges.noPlace(scene.make(g).look(g, 0))) {
                checks.dueNone(scene + ": at " + i, scene.make(g), x -> x.at(g, i));
            }
        }
    }

    static void promise14_at_noneWhereOneHasBeenDropped(Checks checks, int g) {
        MastLog log = Checks.logged(g, 1, 2);
        log.drop(g);
        checks.dueNone("at the dropped", log, x -> x.at(g, 1));
        checks.due("at the one ahead of it", log.at(g, 0), 1);
    }

    static void promise14_at_noneWhereOnlyTheOtherGaugeHasThePlace(Checks checks, int g) {
        checks.dueNone("at the other's place", Checks.logged(1 - g, 1), x -> x.at(g, 0));
    }

    static void promise14_at_noneWhereThereIsNoSuchGauge(Checks checks, int g) {
        for (int none : Edges.NO_GAUGE) {
            checks.dueNoneEverywhere("at of gauge " + none, g, x -> x.at(none, 0));
        }
    }

    static void promise15_look_theFirstAndTheLastWhat(Checks checks, int g) {
        MastLog log = Scene.ALARMED.make(g);
        checks.due("look 0", log.look(g, 0), 5);
        checks.due("look 7", log.look(g, 7), 1);
    }

    static void promise15_look_noneForAnotherWhat(Checks checks, int g) {
        for (int what : Edges.NO_WHAT) {
            checks.dueNoneEverywhere("look for " + what, g, x -> x.look(g, what));
        }
    }

    static void promise15_look_noneWhereThereIsNoSuchGauge(Checks checks, int g) {
        for (int none : Edges.NO_GAUGE) {
            for (int what = 0; what < 8; what++) {
                int asked = what;
                checks.dueNoneEverywhere("look at gauge " + none + " for " + what, g, x -> x.look(none, asked));
            }
        }
    }

    static void promise15_look_countsFrom0To24(Checks checks, int g) {
        MastLog log = new MastLog();
        for (int i = 0; i < 24; i++) {
            checks.due("how many behind " + i + " reads", log.look(g, 0), i);
            log.read(g, i);
        }
        checks.due("how many of the full", log.look(g, 0), 24);
        log.read(g, 24);
        checks.due("how many behind a refused one", log.look(g, 0), 24);
    }

    static void promise15_look_eachLevelIsItsOwn(Checks checks, int g) {
        MastLog log = new MastLog();
        log.limit(g, true, 131072);
        log.limit(g, false, -131072);
        log.key(g, -5);
        log.read(g, -6);
        log.read(g, 7);
        checks.dueLook("all apart", log, g, 2, 7, -6, 131072, -131072, -5, 0, 0);
        checks.dueLook("the other", log, 1 - g, 0, GAP, GAP, GAP, GAP, GAP, 0, 0);
    }

    // It rings at most 12 times in a full log, and on and on where readings are dropped.
    static void promise15_look_rangCountsOnBeyondAFullLog(Checks checks, int g) {
        MastLog log = new MastLog();
        log.limit(g, true, 0);
        for (int rang = 1; rang <= 100; rang++) {
            log.read(g, 1);
            checks.due("how often it rang", log.look(g, 7), rang);
            log.read(g, 0);
            log.drop(g);
            log.drop(g);
        }
    }
}
