/** Counts the answers that are not as due, prints them, and ends a test with exit code 1 if there was one. */
final class Checks {
    private int wrong = 0;
    private int seen = 0;

    /** A new object at whose gauge g these have been read. */
    static MastLog logged(int g, int... told) {
        MastLog log = new MastLog();
        for (int v : told) {
            log.read(g, v);
        }
        return log;
    }

    void due(String call, int got, int want) {
        seen++;
        if (got != want) {
            wrong++;
            System.out.println(call + " answered " + got + ", due is " + want);
        }
    }

    void due(String call, boolean got, boolean want) {
        due(call, got ? 1 : 0, want ? 1 : 0);
    }

    /** The log of gauge g, read back place by place. */
    void dueLog(String when, MastLog log, int g, int... want) {
        due(when + ": length of the log", log.look(g, 0), want.length);
        for (int i = 0; i < want.length; i++) {
            due(when + ": at(" + g + ", " + i + ")", log.at(g, i), want[i]);
        }
        due(when + ": at behind the log", log.at(g, want.length), MastLog.NONE);
    }

    /** All that look tells of gauge g. */
    void dueLook(String when, MastLog log, int g, int... want) {
        for (int what = 0; what < want.length; what++) {
            due(when + ": look(" + g + ", " + what + ")", log.look(g, what), want[what]);
        }
    }

    void finish(String name) {
        System.out.println(name + ": " + seen + " answers, " + wrong + " not as due");
        if (wrong != 0 || seen == 0) {
            System.exit(1);
        }
    }
}
