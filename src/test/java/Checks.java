import java.util.Map;
import java.util.function.Consumer;
import java.util.function.Predicate;
import java.util.function.ToIntFunction;

/** Counts the answers that are not as due, and prints them. */
final class Checks {
    private final String name;
    private int wrong = 0;
    private int seen = 0;

    Checks(String name) {
        this.name = name;
    }

    /** A new object at whose gauge g these have been read. */
    static MastLog logged(int g, int... told) {
        MastLog log = new MastLog();
        for (int v : told) {
            log.read(g, v);
        }
        return log;
    }

    /** A new object whose gauge g is full: 24 readings from the first on, each by a step further. */
    static MastLog filled(int g, int first, int step) {
        MastLog log = new MastLog();
        for (int i = 0; i < 24; i++) {
            log.read(g, first + i * step);
        }
        return log;
    }

    void due(String call, int got, int want) {
        seen++;
        if (got != want) {
            wrong++;
            System.out.println(name + ": " + call + " answered " + got + ", due is " + want);
        }
    }

    void due(String call, boolean got, boolean want) {
        due(call, got ? 1 : 0, want ? 1 : 0);
    }

    /** The log of gauge g, read back place by place. */
    void dueLog(String when, MastLog log, int g, int... want) {
        due(when + ": length of the log", log.look(g, 0), want.length);
        for (int i = 0; i < want.length; i++) {
            due(when + ": at(" + g + ", " + i + ")", log.at(g, i), want[i]);
        }
        due(when + ": at behind the log", log.at(g, want.length), MastLog.NONE);
    }

    /** All that look tells of gauge g. */
    void dueLook(String when, MastLog log, int g, int... want) {
        for (int what = 0; what < want.length; what++) {
            due(when + ": look(" + g + ", " + what + ")", log.look(g, what), want[what]);
        }
    }

    /** The marks from place 0 on, x for a set one. */
    void dueMarks(String when, MastLog log, String want) {
        for (int i = 0; i < want.length(); i++) {
            due(when + ": marked(" + i + ")", log.marked(i), want.charAt(i) == 'x');
        }
        for (int i : Edges.noPlace(want.length())) {
            due(when + ": marked(" + i + ")", log.marked(i), false);
        }
    }

    void dueOrder(String when, MastLog log, int... want) {
        for (int i = 0; i < want.length; i++) {
            due(when + ": ordered(" + i + ")", log.ordered(i), want[i]);
        }
        for (int i : Edges.noPlace(want.length)) {
            due(when + ": ordered(" + i + ")", log.ordered(i), MastLog.NONE);
        }
    }

    /** All ten ways to ask gauge g by that how. */
    void dueWays(String when, MastLog log, int g, int how, int... want) {
        for (int way = 0; way < 10; way++) {
            due(when + ": ask(" + g + ", " + way + ", " + how + ")", log.ask(g, way, how), want[way]);
        }
    }

    /** The hows by which the reading at place i stands to that at place j, each as a digit. */
    void dueStands(MastLog log, int g, int i, int j, String holding) {
        for (int how = 0; how < 6; how++) {
            boolean want = holding.indexOf('0' + how) >= 0;
            due("stands(" + g + ", " + i + ", " + j + ", " + how + ")", log.stands(g, i, j, how), want);
        }
    }

    /** The call may change what is seen under these names (or what begins so), and nothing else. */
    void dueChangesOnly(String call, MastLog log, Consumer<MastLog> made, String... names) {
        Map<String, Integer> before = Sight.of(log);
        made.accept(log);
        Map<String, Integer> after = Sight.of(log);
        for (String seenName : before.keySet()) {
            boolean free = false;
            for (String start : names) {
                free = free || seenName.startsWith(start);
            }
            if (!free) {
                due(call + ", and behind it " + seenName, after.get(seenName), before.get(seenName));
            }
        }
    }

    /** The call answers NONE, and nothing that can be seen has changed. */
    void dueNone(String call, MastLog log, ToIntFunction<MastLog> refused) {
        dueChangesOnly(call, log, x -> due(call, refused.applyAsInt(x), MastLog.NONE));
    }

    /** The call answers false, and nothing that can be seen has changed. */
    void dueFalse(String call, MastLog log, Predicate<MastLog> refused) {
        dueChangesOnly(call, log, x -> due(call, refused.test(x), false));
    }

    /** As dueNone, whatever state the object is in. */
    void dueNoneEverywhere(String call, int g, ToIntFunction<MastLog> refused) {
        for (Scene scene : Scene.values()) {
            dueNone(scene + ": " + call, scene.make(g), refused);
        }
    }

    /** As dueFalse, whatever state the object is in. */
    void dueFalseEverywhere(String call, int g, Predicate<MastLog> refused) {
        for (Scene scene : Scene.values()) {
            dueFalse(scene + ": " + call, scene.make(g), refused);
        }
    }

    /** Tells how the checks ended: true if there were some and all were as due. */
    boolean finish() {
        boolean good = wrong == 0 && seen > 0;
        System.out.println((good ? "  ok: " : "  WRONG: ") + name + ": " + seen + " answers, " + wrong + " not as due");
        return good;
    }
}
