/** The boundary cases that the document's Terms name: told ints, a full log, gaps, alarms, AHEAD, the ten WAYS. */
public final class TermsEdgeTest {
    private static final int NONE = MastLog.NONE;
    private static final int GAP = MastLog.GAP;

    public static void main(String[] args) {
        Cases.run(TermsEdgeTest.class);
    }

    /** A new object with these limits at gauge g. */
    private static MastLog limited(int g, int lower, int upper) {
        MastLog log = new MastLog();
        log.limit(g, false, lower);
        log.limit(g, true, upper);
        return log;
    }

    private static void dueAlarm(Checks checks, String when, MastLog log, int g, int on, int rang) {
        checks.due(when + ": the alarm", log.look(g, 6), on);
        checks.due(when + ": how often it rang", log.look(g, 7), rang);
    }

    static void terms_constants_noneAndGap(Checks checks) {
        checks.due("NONE", NONE, 2147483647);
        checks.due("GAP", GAP, -2147483648);
    }

    static void terms_number_theEdgesAreToldEverywhere(Checks checks, int g) {
        for (int v : Edges.TOLD) {
            MastLog log = new MastLog();
            checks.due("read of " + v, log.read(g, v), 1);
            checks.due("upper " + v, log.limit(g, true, v), true);
            checks.due("lower " + v, log.limit(g, false, v), true);
            checks.due("key " + v, log.key(g, v), true);
            checks.dueLook("told " + v, log, g, 1, v, v, v, v, v, 0, 0);
            checks.dueLog("told " + v, log, g, v);
        }
    }

    static void terms_number_oneBeyondTheEdgesIsNotToldAnywhere(Checks checks, int g) {
        int[] beyond = {-131073, 131073, GAP + 1};
        for (int v : beyond) {
            MastLog log = new MastLog();
            checks.due("read of " + v, log.read(g, v), NONE);
            checks.due("upper " + v, log.limit(g, true, v), false);
            checks.due("lower " + v, log.limit(g, false, v), false);
            checks.due("key " + v, log.key(g, v), false);
            checks.dueLook("told " + v, log, g, 0, GAP, GAP, GAP, GAP, GAP, 0, 0);
        }
    }

    static void terms_number_noughtIsNoGap(Checks checks, int g) {
        MastLog log = limited(g, 0, 0);
        log.read(g, 1);
        dueAlarm(checks, "above an upper of nought", log, g, 1, 1);
        log.read(g, 0);
        dueAlarm(checks, "nought", log, g, 0, 1);
        log.read(g, -1);
        dueAlarm(checks, "below a lower of nought", log, g, 1, 2);
        checks.dueStands(log, g, 1, 1, "134");
    }

    static void terms_log_gapsFillItToo(Checks checks, int g) {
        MastLog log = Checks.filled(g, GAP, 0);
        checks.due("24 gaps", log.look(g, 0), 24);
        checks.due("read of a number behind 24 gaps", log.read(g, 1), NONE);
        checks.due("read of a gap behind 24 gaps", log.read(g, GAP), NONE);
        checks.dueLook("24 gaps", log, g, 24, GAP, GAP);
    }

    static void terms_log_eachGaugeHas24OfItsOwn(Checks checks) {
        MastLog log = Checks.filled(0, 1, 0);
        checks.due("the first of pressure", log.read(1, 2), 1);
        for (int i = 1; i < 24; i++) {
            checks.due("pressure's read " + i, log.read(1, 2), i + 1);
        }
        checks.due("a 25th of warmth", log.read(0, 3), NONE);
        checks.due("a 25th of pressure", log.read(1, 3), NONE);
    }

    static void terms_how_numbersOneApart(Checks checks, int g) {
        int[] lower = {-131072, -9, -1, 0, 7, 131071};
        for (int v : lower) {
            MastLog log = Checks.logged(g, v, v + 1);
            checks.dueStands(log, g, 0, 1, "015");
            checks.dueStands(log, g, 1, 0, "235");
        }
        MastLog ends = Checks.logged(g, -131072, 131072);
        checks.dueStands(ends, g, 0, 1, "015");
        checks.dueStands(ends, g, 1, 0, "235");
    }

    static void terms_how_theSameNumber(Checks checks, int g) {
        int[] numbers = {-131072, -1, 0, 1, 131072};
        for (int v : numbers) {
            MastLog log = Checks.logged(g, v, v);
            checks.dueStands(log, g, 0, 1, "134");
            checks.dueStands(log, g, 0, 0, "134");
        }
    }

    static void terms_how_aGapToANumberIsNotTheSameAlone(Checks checks, int g) {
        MastLog log = Checks.logged(g, GAP, -131072, 0, 131072);
        for (int j = 1; j < 4; j++) {
            checks.dueStands(log, g, 0, j, "5");
        }
    }

    static void terms_how_aNumberToAGapIsNotTheSameAlone(Checks checks, int g) {
        MastLog log = Checks.logged(g, GAP, -131072, 0, 131072);
        for (int i = 1; i < 4; i++) {
            checks.dueStands(log, g, i, 0, "5");
        }
    }

    static void terms_how_aGapToAnotherGapIsNotTheSameAlone(Checks checks, int g) {
        checks.dueStands(Checks.logged(g, GAP, GAP), g, 0, 1, "5");
    }

    static void terms_how_aGapToItselfIsNotTheSameAlone(Checks checks, int g) {
        checks.dueStands(Checks.logged(g, 1, GAP), g, 1, 1, "5");
    }

    static void terms_toLog_aGapComesBehindAndDoesNothingMore(Checks checks, int g) {
        Scene[] scenes = {Scene.NEW, Scene.QUIET, Scene.ALARMED};
        for (Scene scene : scenes) {
            MastLog log = scene.make(g);
            int count = log.look(g, 0);
            checks.dueChangesOnly(scene + ": read of a gap", log, x -> x.read(g, GAP),
                "look(" + g + ", 0)", "at(" + g + ", " + count + ")");
            checks.due(scene + ": the count", log.look(g, 0), count + 1);
            checks.due(scene + ": the gap", log.at(g, count), GAP);
        }
    }

    static void terms_toLog_theFirstNumberIsHighAndLow(Checks checks, int g) {
        int[] numbers = {-131072, -1, 0, 1, 131072};
        for (int v : numbers) {
            MastLog log = Checks.logged(g, GAP, GAP, v);
            checks.dueLook("behind two gaps " + v, log, g, 3, v, v);
        }
    }

    static void terms_toLog_highGoesUpByOneAndStaysBelowIt(Checks checks, int g) {
        MastLog log = Checks.logged(g, 7);
        log.read(g, 7);
        checks.dueLook("the same", log, g, 2, 7, 7);
        log.read(g, 8);
        checks.dueLook("one above", log, g, 3, 8, 7);
        log.read(g, 7);
        checks.dueLook("one below the high", log, g, 4, 8, 7);
        log.read(g, 131072);
        checks.dueLook("the highest", log, g, 5, 131072, 7);
    }

    static void terms_toLog_lowGoesDownByOneAndStaysAboveIt(Checks checks, int g) {
        MastLog log = Checks.logged(g, -7);
        log.read(g, -8);
        checks.dueLook("one below", log, g, 2, -7, -8);
        log.read(g, -8);
        checks.dueLook("the same", log, g, 3, -7, -8);
        log.read(g, -7);
        checks.dueLook("one above the low", log, g, 4, -7, -8);
        log.read(g, -131072);
        checks.dueLook("the lowest", log, g, 5, -7, -131072);
    }

    static void terms_toLog_alarmAtUpperIsOffOneAboveIsOn(Checks checks, int g) {
        int[] uppers = {-131072, -1, 0, 131071};
        for (int upper : uppers) {
            MastLog log = limited(g, GAP, upper);
            log.read(g, upper);
            dueAlarm(checks, "at upper " + upper, log, g, 0, 0);
            log.read(g, upper + 1);
            dueAlarm(checks, "one above upper " + upper, log, g, 1, 1);
        }
    }

    static void terms_toLog_alarmAtLowerIsOffOneBelowIsOn(Checks checks, int g) {
        int[] lowers = {-131071, 0, 1, 131072};
        for (int lower : lowers) {
            MastLog log = limited(g, lower, GAP);
            log.read(g, lower);
            dueAlarm(checks, "at lower " + lower, log, g, 0, 0);
            log.read(g, lower - 1);
            dueAlarm(checks, "one below lower " + lower, log, g, 1, 1);
        }
    }

    static void terms_toLog_alarmOnStaysOnWithoutRingingAgain(Checks checks, int g) {
        MastLog log = limited(g, -10, 10);
        int[] beyond = {11, 131072, -11, GAP, -131072, 11};
        for (int v : beyond) {
            log.read(g, v);
            dueAlarm(checks, "behind " + v, log, g, 1, 1);
        }
    }

    static void terms_toLog_alarmGoesOffWithinAndRingsOnceMore(Checks checks, int g) {
        MastLog log = limited(g, -10, 10);
        int[] within = {10, -10, 0};
        int rang = 0;
        for (int v : within) {
            log.read(g, 11);
            rang++;
            dueAlarm(checks, "above", log, g, 1, rang);
            log.read(g, v);
            dueAlarm(checks, "within: " + v, log, g, 0, rang);
            log.read(g, -11);
            rang++;
            dueAlarm(checks, "below", log, g, 1, rang);
            log.read(g, v);
            dueAlarm(checks, "within again: " + v, log, g, 0, rang);
        }
    }

    static void terms_toLog_openLimitsRingForNothing(Checks checks, int g) {
        MastLog log = Checks.logged(g, -131072, GAP, 0, 131072);
        dueAlarm(checks, "both open", log, g, 0, 0);
        MastLog upperOpen = limited(g, -131072, GAP);
        upperOpen.read(g, 131072);
        dueAlarm(checks, "upper open", upperOpen, g, 0, 0);
        MastLog lowerOpen = limited(g, GAP, 131072);
        lowerOpen.read(g, -131072);
        dueAlarm(checks, "lower open", lowerOpen, g, 0, 0);
    }

    static void terms_toLog_openLimitsTurnTheAlarmOff(Checks checks, int g) {
        MastLog log = limited(g, GAP, 0);
        log.read(g, 1);
        log.limit(g, true, GAP);
        dueAlarm(checks, "opened", log, g, 1, 1);
        log.read(g, 131072);
        dueAlarm(checks, "a number behind it", log, g, 0, 1);
    }

    static void terms_toLog_theAlarmIsOfItsOwnGauge(Checks checks, int g) {
        MastLog log = limited(g, 0, 0);
        log.read(1 - g, 1);
        dueAlarm(checks, "beyond the other's limits", log, 1 - g, 0, 0);
        log.read(g, 1);
        dueAlarm(checks, "beyond its own", log, g, 1, 1);
        dueAlarm(checks, "the other", log, 1 - g, 0, 0);
    }

    // By a key that is a gap only how 5 holds, so ways 5 to 7 tell of the one ahead alone.
    static void terms_ahead_ofPlace0IsAGap(Checks checks, int g) {
        int[] alone = {-131072, 0, 131072, GAP};
        for (int v : alone) {
            MastLog log = Checks.logged(g, v);
            for (int how = 0; how < 5; how++) {
                checks.dueWays(v + " alone", log, g, how, 0, 1, 0, 0, -1, 0, 0, 1, NONE, 0);
            }
            checks.dueWays(v + " alone", log, g, 5, 1, 0, 1, 1, 2, 1, 1, 0, 0, NONE);
        }
    }

    static void terms_ahead_ofPlace0IsNotTheLast(Checks checks, int g) {
        MastLog log = Checks.logged(g, 4, 9, 4);
        checks.due("the same as the one ahead", log.ask(g, 5, 4), 0);
        checks.due("below the one ahead", log.ask(g, 5, 0), 1);
        checks.due("above the one ahead", log.ask(g, 5, 2), 1);
        checks.due("not above the one ahead", log.ask(g, 7, 2), 2);
    }

    static void terms_ahead_ofPlace0IsNotTheKeyOrALevel(Checks checks, int g) {
        MastLog log = limited(g, 4, 4);
        log.read(g, 4);
        log.key(g, 4);
        checks.due("the same as the key and the one ahead", log.ask(g, 6, 4), 0);
        checks.due("the same as the key or the one ahead", log.ask(g, 5, 4), 1);
    }

    static void terms_ahead_ofPlace1IsPlace0(Checks checks, int g) {
        MastLog log = Checks.logged(g, 4, 4);
        checks.due("the same as the one ahead", log.ask(g, 5, 4), 1);
        checks.due("neither", log.ask(g, 7, 4), 1);
    }

    static void terms_ahead_ofPlace23IsPlace22(Checks checks, int g) {
        MastLog log = Checks.filled(g, 4, 0);
        log.drop(g);
        log.read(g, 5);
        checks.due("above the one ahead", log.ask(g, 5, 2), 1);
        checks.due("the same as the one ahead", log.ask(g, 5, 4), 22);
    }

    static void terms_ahead_aGapThereStandsAsGapsDo(Checks checks, int g) {
        MastLog log = Checks.logged(g, 4, GAP, 4, GAP, GAP);
        for (int how = 0; how < 5; how++) {
            checks.due("by " + how, log.ask(g, 5, how), 0);
        }
        checks.due("not the same", log.ask(g, 6, 5), 5);
    }

    static void terms_ahead_ofPlace0IsAGapBehindAMoveToo(Checks checks, int g) {
        MastLog log = Checks.logged(g, 1, 2, 3);
        log.move(g, 2, 0);
        checks.due("3, 1, 2: above the one ahead", log.ask(g, 5, 2), 1);
        checks.due("3, 1, 2: below the one ahead", log.ask(g, 5, 0), 1);
    }

    static void terms_ways_ofAnEmptyLog(Checks checks, int g) {
        int[] keys = {GAP, 0, 131072};
        for (int v : keys) {
            MastLog log = new MastLog();
            log.key(g, v);
            for (int how = 0; how < 6; how++) {
                checks.dueWays("empty, key " + v, log, g, how, 0, 0, 0, 0, 0, 0, 0, 0, NONE, NONE);
            }
        }
    }

    static void terms_ways_ofALogThatHasBeenEmptied(Checks checks, int g) {
        MastLog log = Checks.logged(g, 4, 4);
        log.key(g, 4);
        log.drop(g);
        log.drop(g);
        for (int how = 0; how < 6; how++) {
            checks.dueWays("emptied", log, g, how, 0, 0, 0, 0, 0, 0, 0, 0, NONE, NONE);
        }
    }

    static void terms_ways_ofAFullLogOfWhichAllHold(Checks checks, int g) {
        MastLog log = Checks.filled(g, 4, 0);
        log.key(g, 4);
        checks.dueWays("all the same", log, g, 4, 24, 0, 24, 24, 48, 24, 23, 0, 0, NONE);
        log.key(g, 5);
        checks.dueWays("all below", log, g, 0, 24, 0, 24, 24, 48, 24, 0, 0, 0, NONE);
        checks.dueWays("all not the same", log, g, 5, 24, 0, 24, 24, 48, 24, 1, 0, 0, NONE);
    }

    static void terms_ways_ofAFullLogOfWhichNoneHolds(Checks checks, int g) {
        MastLog log = Checks.filled(g, 4, 0);
        log.key(g, 4);
        checks.dueWays("none below", log, g, 0, 0, 24, 0, 0, -24, 0, 0, 24, NONE, 23);
        checks.dueWays("none not the same", log, g, 5, 0, 24, 0, 0, -24, 1, 0, 23, NONE, 23);
    }

    static void terms_way2_stopsAtTheFirstOfWhichItDoesNotHold(Checks checks, int g) {
        for (int stop = 0; stop < 24; stop++) {
            MastLog log = Checks.filled(g, 4, 0);
            log.key(g, 4);
            log.drop(g);
            log.read(g, GAP);
            log.move(g, 23, stop);
            checks.due("up to place " + stop, log.ask(g, 2, 4), stop);
        }
    }

    static void terms_way3_stopsAtTheLastOfWhichItDoesNotHold(Checks checks, int g) {
        for (int stop = 0; stop < 24; stop++) {
            MastLog log = Checks.filled(g, 4, 0);
            log.key(g, 4);
            log.drop(g);
            log.read(g, 5);
            log.move(g, 23, stop);
            checks.due("back to place " + stop, log.ask(g, 3, 4), 23 - stop);
        }
    }

    static void terms_way4_isNegativeNoughtAndPositive(Checks checks, int g) {
        MastLog log = Checks.logged(g, 4, 5, 5);
        log.key(g, 4);
        checks.due("one of three", log.ask(g, 4, 4), 0);
        log.read(g, GAP);
        checks.due("one of four", log.ask(g, 4, 4), -1);
        log.drop(g);
        log.drop(g);
        checks.due("one of two", log.ask(g, 4, 4), 1);
    }

    static void terms_way8_theFirstAtPlace0At23AndNone(Checks checks, int g) {
        MastLog log = Checks.filled(g, 4, 0);
        log.key(g, 5);
        checks.due("none such", log.ask(g, 8, 4), NONE);
        log.drop(g);
        log.read(g, 5);
        checks.due("at place 23", log.ask(g, 8, 4), 23);
        log.move(g, 23, 0);
        checks.due("at place 0", log.ask(g, 8, 4), 0);
        checks.due("the first of 23", log.ask(g, 8, 0), 1);
    }

    static void terms_way9_theLastAtPlace23At0AndNone(Checks checks, int g) {
        MastLog log = Checks.filled(g, 4, 0);
        log.key(g, 4);
        checks.due("none such", log.ask(g, 9, 4), NONE);
        log.drop(g);
        log.read(g, GAP);
        checks.due("at place 23", log.ask(g, 9, 4), 23);
        log.move(g, 23, 0);
        checks.due("at place 0", log.ask(g, 9, 4), 0);
        checks.due("the last of 23", log.ask(g, 9, 5), 23);
    }
}
