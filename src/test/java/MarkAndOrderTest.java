/** Ordinary runs of promises 9, 10, 12 and 13: the marks and the order. */
public final class MarkAndOrderTest {
    private static final int GAP = MastLog.GAP;

    public static void main(String[] args) {
        Cases.run(MarkAndOrderTest.class);
    }

    static void promise09_mark_byEachHow(Checks checks, int g) {
        String[] want = {"x....", "xx...", "..x.x", ".xx.x", ".x...", "x.xxx"};
        MastLog log = Checks.logged(g, -1, 0, 1, GAP, 131072);
        log.key(g, 0);
        for (int how = 0; how < 6; how++) {
            checks.due("mark by " + how, log.mark(g, how), 5);
            checks.dueMarks("mark by " + how, log, want[how]);
        }
    }

    static void promise10_marked_theNextMarksReplaceThem(Checks checks, int g) {
        MastLog log = Checks.logged(g, 1, 2, 3);
        log.mark(g, 5);
        checks.dueMarks("three", log, "xxx");
        log.read(1 - g, 4);
        checks.due("mark of the other", log.mark(1 - g, 5), 1);
        checks.dueMarks("one", log, "x");
        log.key(g, 2);
        checks.due("mark again", log.mark(g, 2), 3);
        checks.dueMarks("three again", log, "..x");
    }

    static void promise12_order_numbersThenGaps(Checks checks, int g) {
        MastLog log = Checks.logged(g, 3, GAP, -131072, 131072, GAP, 0, 3, -1);
        checks.due("order", log.order(g), 6);
        checks.dueOrder("order", log, -131072, -1, 0, 3, 3, 131072, GAP, GAP);
        checks.dueLog("the log itself", log, g, 3, GAP, -131072, 131072, GAP, 0, 3, -1);
    }

    static void promise13_ordered_theNextOrderReplacesIt(Checks checks, int g) {
        MastLog log = Checks.logged(g, 5, 4, 3);
        log.order(g);
        log.drop(g);
        checks.dueOrder("the former one", log, 3, 4, 5);
        checks.due("order again", log.order(g), 2);
        checks.dueOrder("order again", log, 4, 5);
        log.read(1 - g, GAP);
        checks.due("order of the other", log.order(1 - g), 0);
        checks.dueOrder("order of the other", log, GAP);
    }
}
