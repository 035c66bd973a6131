/** Ordinary runs of promises 2 to 5: what is logged, the limits, the alarm. LogEdgeTest has the boundary cases. */
public final class LogTest {
    private static final int GAP = MastLog.GAP;

    public static void main(String[] args) {
        Cases.run(LogTest.class);
    }

    static void promise02_read_highAndLow(Checks checks, int g) {
        MastLog log = Checks.logged(g, GAP);
        checks.dueLook("a gap alone", log, g, 1, GAP, GAP);
        log.read(g, -4);
        checks.dueLook("the first number", log, g, 2, -4, -4);
        log.read(g, -5);
        checks.dueLook("one below", log, g, 3, -4, -5);
        log.read(g, -3);
        checks.dueLook("one above", log, g, 4, -3, -5);
        log.read(g, -4);
        log.read(g, -5);
        log.read(g, -3);
        log.read(g, GAP);
        checks.dueLook("nothing beyond", log, g, 8, -3, -5);
        log.read(g, 0);
        checks.dueLook("nought above", log, g, 9, 0, -5);
    }

    static void promise02_read_alarmRings(Checks checks, int g) {
        MastLog log = new MastLog();
        log.limit(g, true, 10);
        log.limit(g, false, -10);
        int[] told = {11, 12, GAP, -11, 10, GAP, -11, 0, 131072};
        int[] on = {1, 1, 1, 1, 0, 0, 1, 0, 1};
        int[] rang = {1, 1, 1, 1, 1, 1, 2, 2, 3};
        for (int i = 0; i < told.length; i++) {
            log.read(g, told[i]);
            checks.due("alarm behind " + told[i], log.look(g, 6), on[i]);
            checks.due("rings behind " + told[i], log.look(g, 7), rang[i]);
            checks.due("alarm of the other", log.look(1 - g, 6), 0);
        }
    }

    static void promise02_read_everyNumberIsKept(Checks checks, int g) {
        MastLog log = new MastLog();
        int calls = 0;
        for (int v = -131072; v <= 131072; v++) {
            if (calls > 500) {
                log = new MastLog();
                calls = 0;
            }
            log.read(g, v);
            checks.due("read and at of " + v, log.at(g, 0), v);
            checks.due("read and drop of " + v, log.drop(g), v);
            calls += 3;
        }
    }

    static void promise03_drop_takesTheLast(Checks checks, int g) {
        MastLog log = new MastLog();
        log.limit(g, true, 5);
        log.read(g, 2);
        log.read(g, GAP);
        log.read(g, 6);
        checks.due("drop of a number", log.drop(g), 6);
        checks.dueLook("high, low, alarm stay", log, g, 2, 6, 2, 5, GAP, GAP, 1, 1);
        checks.due("drop of a gap", log.drop(g), GAP);
        checks.dueLog("two dropped", log, g, 2);
        log.read(g, 4);
        checks.dueLog("read behind drops", log, g, 2, 4);
        checks.dueLook("read behind drops", log, g, 2, 6, 2, 5, GAP, GAP, 0, 1);
    }

    static void promise04_limit_openAndClosed(Checks checks, int g) {
        MastLog log = Checks.logged(g, 131072, -131072);
        checks.due("no limits: alarm", log.look(g, 6), 0);
        log.limit(g, false, -8);
        log.read(g, 131072);
        checks.due("upper open: alarm", log.look(g, 6), 0);
        log.read(g, -9);
        checks.due("below lower: alarm", log.look(g, 6), 1);
        checks.due("open lower", log.limit(g, false, GAP), true);
        checks.due("open lower: alarm stays", log.look(g, 6), 1);
        log.limit(g, true, 8);
        log.read(g, -131072);
        checks.due("lower open: alarm", log.look(g, 6), 0);
        log.read(g, 9);
        checks.due("above upper: alarm", log.look(g, 6), 1);
        log.limit(g, true, GAP);
        log.read(g, 131072);
        checks.dueLook("both open again", log, g, 7, 131072, -131072, GAP, GAP, GAP, 0, 2);
    }

    static void promise04_limit_leavesTheAlarm(Checks checks, int g) {
        MastLog log = Checks.logged(g, 20);
        log.limit(g, true, 10);
        checks.due("limit below what was read: alarm", log.look(g, 6), 0);
        log.read(g, 20);
        log.limit(g, true, 30);
        checks.due("limit above what was read: alarm", log.look(g, 6), 1);
        log.read(g, 31);
        checks.due("still on: rings", log.look(g, 7), 1);
    }

    static void promise05_move_forthAndBack(Checks checks, int g) {
        MastLog log = Checks.logged(g, 1, GAP, 3, 4, 5);
        checks.due("move(1, 3)", log.move(g, 1, 3), true);
        checks.dueLog("move(1, 3)", log, g, 1, 3, 4, GAP, 5);
        checks.due("move(4, 0)", log.move(g, 4, 0), true);
        checks.dueLog("move(4, 0)", log, g, 5, 1, 3, 4, GAP);
        checks.due("move(0, 4)", log.move(g, 0, 4), true);
        checks.dueLog("move(0, 4)", log, g, 1, 3, 4, GAP, 5);
        checks.due("move(2, 1)", log.move(g, 2, 1), true);
        checks.dueLog("move(2, 1)", log, g, 1, 4, 3, GAP, 5);
    }

    static void promise15_look_theGaugesAreApart(Checks checks) {
        MastLog log = new MastLog();
        log.read(0, 1);
        log.read(1, 2);
        log.read(1, 3);
        log.limit(0, true, 40);
        log.limit(1, false, 50);
        log.key(1, 60);
        log.read(1, 4);
        checks.dueLog("warmth", log, 0, 1);
        checks.dueLog("pressure", log, 1, 2, 3, 4);
        checks.dueLook("warmth", log, 0, 1, 1, 1, 40, GAP, GAP, 0, 0);
        checks.dueLook("pressure", log, 1, 3, 4, 2, GAP, 50, 60, 1, 1);
    }
}
