/** Promises 1 to 5, 14 and 15: what is logged, the limits, the alarm. */
public final class LogTest {
    private static final int NONE = MastLog.NONE;
    private static final int GAP = MastLog.GAP;
    private static final int[] NO_GAUGE = {-1, 2, 3, Integer.MIN_VALUE, Integer.MAX_VALUE};
    private static final int[] NOT_TOLD = {-131073, 131073, GAP + 1, NONE, NONE - 1};
    private static final Checks checks = new Checks();

    public static void main(String[] args) {
        newObject();
        objectsAreApart();
        for (int g = 0; g < 2; g++) {
            readCounts(g);
            readRefuses(g);
            highAndLow(g);
            alarmRings(g);
            alarmAtTheLimit(g);
            openLimits(g);
            dropTakesTheLast(g);
            limitRefuses(g);
            limitLeavesTheAlarm(g);
            moveForthAndBack(g);
            moveRefuses(g);
            atRefuses(g);
            lookRefuses(g);
            everyNumberIsKept(g);
        }
        gaugesAreApart();
        checks.finish("LogTest");
    }

    private static void newObject() {
        MastLog log = new MastLog();
        for (int g = 0; g < 2; g++) {
            checks.dueLook("new", log, g, 0, GAP, GAP, GAP, GAP, GAP, 0, 0);
            checks.dueLog("new", log, g);
            checks.due("new: drop", log.drop(g), NONE);
            for (int how = 0; how < 6; how++) {
                for (int way = 0; way < 10; way++) {
                    checks.due("new: ask way " + way, log.ask(g, way, how), way < 8 ? 0 : NONE);
                }
            }
        }
        checks.due("new: marked(0)", log.marked(0), false);
        checks.due("new: ordered(0)", log.ordered(0), NONE);
        checks.due("new: meet(5)", log.meet(5), 0);
        checks.due("NONE", NONE, 2147483647);
        checks.due("GAP", GAP, -2147483648);
    }

    private static void objectsAreApart() {
        MastLog one = Checks.logged(0, 5, 6);
        one.mark(0, 5);
        one.order(0);
        one.key(0, 3);
        MastLog other = new MastLog();
        checks.dueLook("beside another", other, 0, 0, GAP, GAP, GAP, GAP, GAP, 0, 0);
        checks.due("beside another: marked(0)", other.marked(0), false);
        checks.due("beside another: ordered(0)", other.ordered(0), NONE);
        checks.dueLog("the first one", one, 0, 5, 6);
    }

    private static void readCounts(int g) {
        MastLog log = new MastLog();
        for (int i = 0; i < 24; i++) {
            checks.due("read " + i, log.read(g, i % 5 == 2 ? GAP : i * 7 - 60), i + 1);
        }
        checks.due("read of a 25th", log.read(g, 9000), NONE);
        checks.due("read of a 25th, a gap", log.read(g, GAP), NONE);
        checks.dueLook("full", log, g, 24, 101, -60);
        checks.due("last of the full", log.at(g, 23), 101);
        checks.due("drop of the full", log.drop(g), 101);
        checks.due("read again", log.read(g, 4), 24);
        checks.due("the one read again", log.at(g, 23), 4);
        checks.due("place 2", log.at(g, 2), GAP);
    }

    private static void readRefuses(int g) {
        MastLog log = Checks.logged(g, 3);
        for (int v : NOT_TOLD) {
            checks.due("read of " + v, log.read(g, v), NONE);
        }
        for (int none : NO_GAUGE) {
            checks.due("read at gauge " + none, log.read(none, 1), NONE);
        }
        checks.dueLog("after refusals", log, g, 3);
        checks.dueLog("after refusals, the other", log, 1 - g);
        checks.dueLook("after refusals", log, g, 1, 3, 3, GAP, GAP, GAP, 0, 0);
        checks.due("the highest number", log.read(g, 131072), 2);
        checks.due("the lowest number", log.read(g, -131072), 3);
        checks.dueLook("after the edges", log, g, 3, 131072, -131072);
        checks.dueLog("after the edges", log, g, 3, 131072, -131072);
    }

    private static void highAndLow(int g) {
        MastLog log = Checks.logged(g, GAP);
        checks.dueLook("a gap alone", log, g, 1, GAP, GAP);
        log.read(g, -4);
        checks.dueLook("the first number", log, g, 2, -4, -4);
        log.read(g, -5);
        checks.dueLook("one below", log, g, 3, -4, -5);
        log.read(g, -3);
        checks.dueLook("one above", log, g, 4, -3, -5);
        log.read(g, -4);
        log.read(g, -5);
        log.read(g, -3);
        log.read(g, GAP);
        checks.dueLook("nothing beyond", log, g, 8, -3, -5);
        log.read(g, 0);
        checks.dueLook("nought above", log, g, 9, 0, -5);
    }

    private static void alarmRings(int g) {
        MastLog log = new MastLog();
        log.limit(g, true, 10);
        log.limit(g, false, -10);
        int[] told = {11, 12, GAP, -11, 10, GAP, -11, 0, 131072};
        int[] on = {1, 1, 1, 1, 0, 0, 1, 0, 1};
        int[] rang = {1, 1, 1, 1, 1, 1, 2, 2, 3};
        for (int i = 0; i < told.length; i++) {
            log.read(g, told[i]);
            checks.due("alarm behind " + told[i], log.look(g, 6), on[i]);
            checks.due("rings behind " + told[i], log.look(g, 7), rang[i]);
            checks.due("alarm of the other", log.look(1 - g, 6), 0);
        }
    }

    private static void alarmAtTheLimit(int g) {
        MastLog log = new MastLog();
        log.limit(g, true, 8);
        log.limit(g, false, 8);
        log.read(g, 8);
        checks.dueLook("at both limits", log, g, 1, 8, 8, 8, 8, GAP, 0, 0);
        log.read(g, 9);
        checks.dueLook("above both", log, g, 2, 9, 8, 8, 8, GAP, 1, 1);
        log.read(g, 8);
        log.read(g, 7);
        checks.dueLook("below both", log, g, 4, 9, 7, 8, 8, GAP, 1, 2);
    }

    private static void openLimits(int g) {
        MastLog log = Checks.logged(g, 131072, -131072);
        checks.due("no limits: alarm", log.look(g, 6), 0);
        log.limit(g, false, -8);
        log.read(g, 131072);
        checks.due("upper open: alarm", log.look(g, 6), 0);
        log.read(g, -9);
        checks.due("below lower: alarm", log.look(g, 6), 1);
        checks.due("open lower", log.limit(g, false, GAP), true);
        checks.due("open lower: alarm stays", log.look(g, 6), 1);
        log.limit(g, true, 8);
        log.read(g, -131072);
        checks.due("lower open: alarm", log.look(g, 6), 0);
        log.read(g, 9);
        checks.due("above upper: alarm", log.look(g, 6), 1);
        checks.due("rings", log.look(g, 7), 2);
        log.limit(g, true, GAP);
        log.read(g, 131072);
        checks.dueLook("both open again", log, g, 7, 131072, -131072, GAP, GAP, GAP, 0, 2);
    }

    private static void dropTakesTheLast(int g) {
        MastLog log = new MastLog();
        log.limit(g, true, 5);
        log.read(g, 2);
        log.read(g, GAP);
        log.read(g, 6);
        checks.due("drop of a number", log.drop(g), 6);
        checks.dueLook("high, low, alarm stay", log, g, 2, 6, 2, 5, GAP, GAP, 1, 1);
        checks.due("drop of a gap", log.drop(g), GAP);
        checks.dueLog("two dropped", log, g, 2);
        checks.due("drop of the first", log.drop(g), 2);
        checks.due("drop of none", log.drop(g), NONE);
        checks.dueLook("none left", log, g, 0, 6, 2, 5, GAP, GAP, 1, 1);
        log.read(g, 4);
        checks.dueLook("read behind drops", log, g, 1, 6, 2, 5, GAP, GAP, 0, 1);
        checks.due("drop of the other", log.drop(1 - g), NONE);
        for (int none : NO_GAUGE) {
            checks.due("drop at gauge " + none, log.drop(none), NONE);
        }
        checks.dueLog("after refusals", log, g, 4);
    }

    private static void limitRefuses(int g) {
        MastLog log = new MastLog();
        checks.due("upper -3", log.limit(g, true, -3), true);
        checks.due("lower above it", log.limit(g, false, -2), false);
        checks.due("lower stays", log.look(g, 4), GAP);
        checks.due("lower the same", log.limit(g, false, -3), true);
        checks.due("upper below it", log.limit(g, true, -4), false);
        checks.due("upper stays", log.look(g, 3), -3);
        checks.due("upper opens", log.limit(g, true, GAP), true);
        checks.due("lower high", log.limit(g, false, 131072), true);
        checks.due("upper below it", log.limit(g, true, 131071), false);
        checks.due("lower low", log.limit(g, false, -131072), true);
        checks.due("upper low", log.limit(g, true, -131072), true);
        for (int v : NOT_TOLD) {
            checks.due("upper " + v, log.limit(g, true, v), false);
            checks.due("lower " + v, log.limit(g, false, v), false);
        }
        for (int none : NO_GAUGE) {
            checks.due("limit at gauge " + none, log.limit(none, true, 1), false);
        }
        checks.dueLook("after refusals", log, g, 0, GAP, GAP, -131072, -131072, GAP, 0, 0);
        checks.dueLook("after refusals, the other", log, 1 - g, 0, GAP, GAP, GAP, GAP, GAP, 0, 0);
    }

    private static void limitLeavesTheAlarm(int g) {
        MastLog log = Checks.logged(g, 20);
        log.limit(g, true, 10);
        checks.due("limit below what was read: alarm", log.look(g, 6), 0);
        log.read(g, 20);
        log.limit(g, true, 30);
        checks.due("limit above what was read: alarm", log.look(g, 6), 1);
        log.read(g, 31);
        checks.due("still on: rings", log.look(g, 7), 1);
    }

    private static void moveForthAndBack(int g) {
        MastLog log = Checks.logged(g, 1, GAP, 3, 4, 5);
        checks.due("move(1, 3)", log.move(g, 1, 3), true);
        checks.dueLog("move(1, 3)", log, g, 1, 3, 4, GAP, 5);
        checks.due("move(4, 0)", log.move(g, 4, 0), true);
        checks.dueLog("move(4, 0)", log, g, 5, 1, 3, 4, GAP);
        checks.due("move(0, 4)", log.move(g, 0, 4), true);
        checks.dueLog("move(0, 4)", log, g, 1, 3, 4, GAP, 5);
        checks.due("move(2, 1)", log.move(g, 2, 1), true);
        checks.dueLog("move(2, 1)", log, g, 1, 4, 3, GAP, 5);
        checks.due("move(2, 2)", log.move(g, 2, 2), true);
        checks.dueLog("move(2, 2)", log, g, 1, 4, 3, GAP, 5);
        checks.dueLook("moves change nothing else", log, g, 5, 5, 1, GAP, GAP, GAP, 0, 0);
        MastLog full = new MastLog();
        for (int i = 0; i < 24; i++) {
            full.read(g, i);
        }
        full.key(g, 77);
        checks.due("move in the full", full.move(g, 0, 23), true);
        checks.due("move in the full: first", full.at(g, 0), 1);
        checks.due("move in the full: last", full.at(g, 23), 0);
        checks.dueLook("move in the full", full, g, 24, 23, 0, GAP, GAP, 77, 0, 0);
    }

    private static void moveRefuses(int g) {
        MastLog log = Checks.logged(g, 1, 2, 3);
        int[] noPlace = {-1, 3, 24, Integer.MIN_VALUE, Integer.MAX_VALUE};
        for (int i : noPlace) {
            checks.due("move from " + i, log.move(g, i, 1), false);
            checks.due("move to " + i, log.move(g, 1, i), false);
            checks.due("move from and to " + i, log.move(g, i, i), false);
        }
        for (int none : NO_GAUGE) {
            checks.due("move at gauge " + none, log.move(none, 0, 1), false);
        }
        checks.due("move of the empty", log.move(1 - g, 0, 0), false);
        checks.dueLog("after refusals", log, g, 1, 2, 3);
    }

    private static void atRefuses(int g) {
        MastLog log = Checks.logged(g, 5, GAP);
        checks.due("at(1)", log.at(g, 1), GAP);
        int[] noPlace = {-1, 2, 24, 28, Integer.MIN_VALUE, Integer.MAX_VALUE};
        for (int i : noPlace) {
            checks.due("at " + i, log.at(g, i), NONE);
        }
        for (int none : NO_GAUGE) {
            checks.due("at of gauge " + none, log.at(none, 0), NONE);
        }
        checks.due("at of the empty", log.at(1 - g, 0), NONE);
        log.drop(g);
        checks.due("at of the dropped", log.at(g, 1), NONE);
    }

    private static void lookRefuses(int g) {
        MastLog log = Checks.logged(g, 5);
        int[] noWhat = {-1, 8, Integer.MIN_VALUE, Integer.MAX_VALUE};
        for (int what : noWhat) {
            checks.due("look for " + what, log.look(g, what), NONE);
        }
        for (int none : NO_GAUGE) {
            for (int what = 0; what < 8; what++) {
                checks.due("look at gauge " + none, log.look(none, what), NONE);
            }
        }
    }

    private static void everyNumberIsKept(int g) {
        MastLog log = new MastLog();
        int calls = 0;
        for (int v = -131072; v <= 131072; v++) {
            if (calls > 500) {
                log = new MastLog();
                calls = 0;
            }
            log.read(g, v);
            checks.due("read and at of " + v, log.at(g, 0), v);
            checks.due("read and drop of " + v, log.drop(g), v);
            calls += 3;
        }
    }

    private static void gaugesAreApart() {
        MastLog log = new MastLog();
        log.read(0, 1);
        log.read(1, 2);
        log.read(1, 3);
        log.limit(0, true, 40);
        log.limit(1, false, 50);
        log.key(1, 60);
        log.read(1, 4);
        checks.dueLog("warmth", log, 0, 1);
        checks.dueLog("pressure", log, 1, 2, 3, 4);
        checks.dueLook("warmth", log, 0, 1, 1, 1, 40, GAP, GAP, 0, 0);
        checks.dueLook("pressure", log, 1, 3, 4, 2, GAP, 50, 60, 1, 1);
    }
}
