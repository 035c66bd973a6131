/** Ordinary runs of promises 6 to 8 and 11: questions by a key, of two readings, of both gauges. */
public final class QuestionTest {
    private static final int NONE = MastLog.NONE;
    private static final int GAP = MastLog.GAP;

    public static void main(String[] args) {
        Cases.run(QuestionTest.class);
    }

    static void promise06_key_isKept(Checks checks, int g) {
        MastLog log = Checks.logged(g, 7, 8);
        int[] keys = {8, -131072, 131072, 0, GAP, 7};
        for (int v : keys) {
            checks.due("key " + v, log.key(g, v), true);
            checks.due("look at key " + v, log.look(g, 5), v);
            checks.due("the other's key", log.look(1 - g, 5), GAP);
        }
        checks.due("ask by the last key", log.ask(g, 8, 4), 0);
    }

    static void promise07_ask_allWays(Checks checks, int g) {
        MastLog log = Checks.logged(g, 1, 2, GAP, 2, 3, 1, 1);
        log.key(g, 2);
        checks.dueWays("key 2", log, g, 0, 3, 4, 1, 2, 2, 3, 1, 4, 0, 4);
        checks.dueWays("key 2", log, g, 1, 5, 2, 2, 2, 8, 5, 2, 2, 0, 4);
        checks.dueWays("key 2", log, g, 2, 1, 6, 0, 0, -4, 2, 1, 5, 4, 6);
        checks.dueWays("key 2", log, g, 3, 3, 4, 0, 0, 2, 4, 2, 3, 1, 6);
        checks.dueWays("key 2", log, g, 4, 2, 5, 0, 0, -1, 3, 0, 4, 1, 6);
        checks.dueWays("key 2", log, g, 5, 5, 2, 1, 3, 8, 7, 4, 0, 0, 3);
    }

    static void promise07_ask_allWaysByAGap(Checks checks, int g) {
        MastLog log = Checks.logged(g, 4, 4, 5);
        checks.dueWays("key a gap", log, g, 0, 0, 3, 0, 0, -3, 0, 0, 3, NONE, 2);
        checks.dueWays("key a gap", log, g, 1, 0, 3, 0, 0, -3, 1, 0, 2, NONE, 2);
        checks.dueWays("key a gap", log, g, 2, 0, 3, 0, 0, -3, 1, 0, 2, NONE, 2);
        checks.dueWays("key a gap", log, g, 3, 0, 3, 0, 0, -3, 2, 0, 1, NONE, 2);
        checks.dueWays("key a gap", log, g, 4, 0, 3, 0, 0, -3, 1, 0, 2, NONE, 2);
        checks.dueWays("key a gap", log, g, 5, 3, 0, 3, 3, 6, 3, 2, 0, 0, NONE);
    }

    static void promise07_ask_allWaysOfGapsAlone(Checks checks, int g) {
        MastLog log = Checks.logged(g, GAP, GAP);
        int[] keys = {GAP, -131072, 0};
        for (int v : keys) {
            log.key(g, v);
            for (int how = 0; how < 5; how++) {
                checks.dueWays("two gaps", log, g, how, 0, 2, 0, 0, -2, 0, 0, 2, NONE, 1);
            }
            checks.dueWays("two gaps", log, g, 5, 2, 0, 2, 2, 4, 2, 2, 0, 0, NONE);
        }
    }

    static void promise08_stands_allHows(Checks checks, int g) {
        MastLog log = Checks.logged(g, -131072, -131071, GAP, GAP, 131072, -131072);
        checks.dueStands(log, g, 0, 1, "015");
        checks.dueStands(log, g, 1, 0, "235");
        checks.dueStands(log, g, 0, 5, "134");
        checks.dueStands(log, g, 0, 4, "015");
        checks.dueStands(log, g, 2, 3, "5");
        checks.dueStands(log, g, 2, 0, "5");
        checks.dueStands(log, g, 4, 3, "5");
    }

    static void promise11_meet_allHows(Checks checks) {
        int[] warmth = {5, 5, 6, GAP, 5, GAP, -131072, 131072};
        int[] pressure = {5, 6, 5, 5, GAP, GAP, -131072, 131071};
        int[] want = {1, 3, 2, 4, 2, 6};
        MastLog log = Checks.logged(0, warmth);
        for (int v : pressure) {
            log.read(1, v);
        }
        for (int how = 0; how < 6; how++) {
            checks.due("meet(" + how + ")", log.meet(how), want[how]);
        }
    }

    static void promise11_meet_thePlacesOfBoth(Checks checks) {
        MastLog log = Checks.logged(0, 1, 2, 3);
        log.read(1, 2);
        checks.due("one place: below", log.meet(0), 1);
        checks.due("one place: not the same", log.meet(5), 1);
        for (int i = 0; i < 5; i++) {
            log.read(1, 2);
        }
        checks.due("three places: below or the same", log.meet(1), 2);
        checks.due("three places: above", log.meet(2), 1);
        log.drop(0);
        checks.due("two places: above", log.meet(2), 0);
        checks.due("two places: the same", log.meet(4), 1);
    }
}
