/** States in which a call can find an object; all but the first have limits, keys, marks and an order. */
enum Scene {
    NEW, QUIET, ALARMED, FULL;

    /** The state, told of gauge g; the other gauge has two readings. */
    MastLog make(int g) {
        MastLog log = new MastLog();
        if (this == NEW) {
            return log;
        }
        fillBoth(log, g);
        if (this == ALARMED) {
            log.read(g, 101);
        }
        for (int i = 4; this == FULL && i < 24; i++) {
            log.read(g, 3 * i - 30);
        }
        return log;
    }

    // The marks are those of gauge g and the order that of the other one, so that a call at the wrong gauge shows.
    private static void fillBoth(MastLog log, int g) {
        log.limit(g, true, 100);
        log.limit(g, false, -100);
        log.limit(1 - g, true, 50);
        log.key(g, 5);
        log.key(1 - g, -3);
        int[] told = {5, MastLog.GAP, -7, 9};
        for (int v : told) {
            log.read(g, v);
        }
        log.read(1 - g, 8);
        log.read(1 - g, -3);
        log.mark(g, 5);
        log.order(1 - g);
    }
}
