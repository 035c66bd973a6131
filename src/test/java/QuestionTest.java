/** Promises 6 to 8 and 11: keys, and how what was logged stands to them, to itself, to the other gauge. */
public final class QuestionTest {
    private static final int NONE = MastLog.NONE;
    private static final int GAP = MastLog.GAP;
    private static final int[] NO_GAUGE = {-1, 2, Integer.MIN_VALUE, Integer.MAX_VALUE};
    private static final int[] NO_HOW = {-1, 6, Integer.MIN_VALUE, Integer.MAX_VALUE};
    private static final Checks checks = new Checks();

    public static void main(String[] args) {
        for (int g = 0; g < 2; g++) {
            keyIsKept(g);
            keyRefuses(g);
            askAllWays(g);
            askByAGap(g);
            askOfGapsAlone(g);
            askRefuses(g);
            standsAllHows(g);
            standsRefuses(g);
        }
        meetAllHows();
        meetTakesThePlacesOfBoth();
        meetRefuses();
        checks.finish("QuestionTest");
    }

    private static void keyIsKept(int g) {
        MastLog log = Checks.logged(g, 7, 8);
        int[] keys = {8, -131072, 131072, 0, GAP, 7};
        for (int v : keys) {
            checks.due("key " + v, log.key(g, v), true);
            checks.due("look at key " + v, log.look(g, 5), v);
            checks.due("the other's key", log.look(1 - g, 5), GAP);
        }
        checks.due("ask by the last key", log.ask(g, 8, 4), 0);
        log.key(1 - g, 8);
        checks.due("each gauge has its own", log.ask(g, 8, 4), 0);
        checks.dueLook("keys change nothing else", log, g, 2, 8, 7, GAP, GAP, 7, 0, 0);
    }

    private static void keyRefuses(int g) {
        MastLog log = new MastLog();
        log.key(g, 12);
        int[] notTold = {-131073, 131073, GAP + 1, NONE};
        for (int v : notTold) {
            checks.due("key " + v, log.key(g, v), false);
        }
        for (int none : NO_GAUGE) {
            checks.due("key of gauge " + none, log.key(none, 3), false);
        }
        checks.due("the key stays", log.look(g, 5), 12);
        checks.due("the other's key stays", log.look(1 - g, 5), GAP);
    }

    private static void dueWays(MastLog log, int g, int how, int... want) {
        for (int way = 0; way < 10; way++) {
            checks.due("ask(" + g + ", " + way + ", " + how + ")", log.ask(g, way, how), want[way]);
        }
    }

    private static void askAllWays(int g) {
        MastLog log = Checks.logged(g, 1, 2, GAP, 2, 3, 1, 1);
        log.key(g, 2);
        dueWays(log, g, 0, 3, 4, 1, 2, 2, 3, 1, 4, 0, 4);
        dueWays(log, g, 1, 5, 2, 2, 2, 8, 5, 2, 2, 0, 4);
        dueWays(log, g, 2, 1, 6, 0, 0, -4, 2, 1, 5, 4, 6);
        dueWays(log, g, 3, 3, 4, 0, 0, 2, 4, 2, 3, 1, 6);
        dueWays(log, g, 4, 2, 5, 0, 0, -1, 3, 0, 4, 1, 6);
        dueWays(log, g, 5, 5, 2, 1, 3, 8, 7, 4, 0, 0, 3);
        checks.dueLog("asking changes nothing", log, g, 1, 2, GAP, 2, 3, 1, 1);
    }

    private static void askByAGap(int g) {
        MastLog log = Checks.logged(g, 4, 4, 5);
        dueWays(log, g, 0, 0, 3, 0, 0, -3, 0, 0, 3, NONE, 2);
        dueWays(log, g, 1, 0, 3, 0, 0, -3, 1, 0, 2, NONE, 2);
        dueWays(log, g, 2, 0, 3, 0, 0, -3, 1, 0, 2, NONE, 2);
        dueWays(log, g, 3, 0, 3, 0, 0, -3, 2, 0, 1, NONE, 2);
        dueWays(log, g, 4, 0, 3, 0, 0, -3, 1, 0, 2, NONE, 2);
        dueWays(log, g, 5, 3, 0, 3, 3, 6, 3, 2, 0, 0, NONE);
    }

    private static void askOfGapsAlone(int g) {
        MastLog log = Checks.logged(g, GAP, GAP);
        int[] keys = {GAP, -131072, 0};
        for (int v : keys) {
            log.key(g, v);
            for (int how = 0; how < 5; how++) {
                dueWays(log, g, how, 0, 2, 0, 0, -2, 0, 0, 2, NONE, 1);
            }
            dueWays(log, g, 5, 2, 0, 2, 2, 4, 2, 2, 0, 0, NONE);
        }
    }

    private static void askRefuses(int g) {
        MastLog log = Checks.logged(g, 1, 2, 3);
        log.key(g, 2);
        for (int how : NO_HOW) {
            for (int way = 0; way < 10; way++) {
                checks.due("ask by how " + how, log.ask(g, way, how), NONE);
            }
        }
        int[] noWay = {-1, 10, Integer.MIN_VALUE, Integer.MAX_VALUE};
        for (int way : noWay) {
            checks.due("ask by way " + way, log.ask(g, way, 1), NONE);
        }
        for (int none : NO_GAUGE) {
            checks.due("ask of gauge " + none, log.ask(none, 0, 1), NONE);
        }
    }

    private static void dueStands(MastLog log, int g, int i, int j, String holding) {
        for (int how = 0; how < 6; how++) {
            boolean want = holding.indexOf('0' + how) >= 0;
            checks.due("stands(" + g + ", " + i + ", " + j + ", " + how + ")", log.stands(g, i, j, how), want);
        }
    }

    private static void standsAllHows(int g) {
        MastLog log = Checks.logged(g, -131072, -131071, GAP, GAP, 131072, -131072);
        dueStands(log, g, 0, 1, "015");
        dueStands(log, g, 1, 0, "235");
        dueStands(log, g, 0, 5, "134");
        dueStands(log, g, 4, 4, "134");
        dueStands(log, g, 0, 4, "015");
        dueStands(log, g, 2, 2, "5");
        dueStands(log, g, 2, 3, "5");
        dueStands(log, g, 2, 0, "5");
        dueStands(log, g, 0, 2, "5");
        dueStands(log, g, 4, 3, "5");
    }

    private static void standsRefuses(int g) {
        MastLog log = Checks.logged(g, 1, 1, GAP);
        int[] noPlace = {-1, 3, 24, Integer.MIN_VALUE, Integer.MAX_VALUE};
        for (int i : noPlace) {
            dueStands(log, g, i, 0, "");
            dueStands(log, g, 0, i, "");
            dueStands(log, g, i, i, "");
        }
        for (int none : NO_GAUGE) {
            dueStands(log, none, 0, 2, "");
        }
        for (int how : NO_HOW) {
            checks.due("stands by how " + how, log.stands(g, 0, 1, how), false);
            checks.due("a gap stands by how " + how, log.stands(g, 0, 2, how), false);
        }
        dueStands(log, 1 - g, 0, 0, "");
    }

    private static void meetAllHows() {
        int[] warmth = {5, 5, 6, GAP, 5, GAP, -131072, 131072};
        int[] pressure = {5, 6, 5, 5, GAP, GAP, -131072, 131071};
        int[] want = {1, 3, 2, 4, 2, 6};
        MastLog log = Checks.logged(0, warmth);
        for (int v : pressure) {
            log.read(1, v);
        }
        for (int how = 0; how < 6; how++) {
            checks.due("meet(" + how + ")", log.meet(how), want[how]);
        }
    }

    private static void meetTakesThePlacesOfBoth() {
        MastLog log = Checks.logged(0, 1, 2, 3);
        checks.due("pressure empty", log.meet(5), 0);
        log.read(1, 2);
        checks.due("one place: below", log.meet(0), 1);
        checks.due("one place: not the same", log.meet(5), 1);
        for (int i = 0; i < 5; i++) {
            log.read(1, 2);
        }
        checks.due("three places: below or the same", log.meet(1), 2);
        checks.due("three places: above", log.meet(2), 1);
        log.drop(0);
        checks.due("two places: above", log.meet(2), 0);
        checks.due("two places: the same", log.meet(4), 1);
    }

    private static void meetRefuses() {
        MastLog log = Checks.logged(0, 1);
        log.read(1, 1);
        for (int how : NO_HOW) {
            checks.due("meet by how " + how, log.meet(how), NONE);
        }
    }
}
