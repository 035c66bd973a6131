/** Promises 9, 10, 12 and 13: the marks and the order. */
public final class MarkAndOrderTest {
    private static final int NONE = MastLog.NONE;
    private static final int GAP = MastLog.GAP;
    private static final int[] NO_GAUGE = {-1, 2, Integer.MIN_VALUE, Integer.MAX_VALUE};
    private static final Checks checks = new Checks();

    public static void main(String[] args) {
        for (int g = 0; g < 2; g++) {
            marksByEachHow(g);
            marksStay(g);
            fewerMarksReplaceMore(g);
            ordersNumbersThenGaps(g);
            orderStays(g);
            shorterOrderReplacesLonger(g);
            ordersTheFull(g);
        }
        checks.finish("MarkAndOrderTest");
    }

    /** The marks from place 0 on, x for a set one. */
    private static void dueMarks(String when, MastLog log, String want) {
        for (int i = 0; i < want.length(); i++) {
            checks.due(when + ": marked(" + i + ")", log.marked(i), want.charAt(i) == 'x');
        }
        int[] none = {-1, want.length(), 23, 24, Integer.MIN_VALUE, Integer.MAX_VALUE};
        for (int i : none) {
            checks.due(when + ": marked(" + i + ")", log.marked(i), false);
        }
    }

    private static void dueOrder(String when, MastLog log, int... want) {
        for (int i = 0; i < want.length; i++) {
            checks.due(when + ": ordered(" + i + ")", log.ordered(i), want[i]);
        }
        int[] none = {-1, want.length, 24, Integer.MIN_VALUE, Integer.MAX_VALUE};
        for (int i : none) {
            checks.due(when + ": ordered(" + i + ")", log.ordered(i), NONE);
        }
    }

    private static void marksByEachHow(int g) {
        String[] want = {"x....", "xx...", "..x.x", ".xx.x", ".x...", "x.xxx"};
        MastLog log = Checks.logged(g, -1, 0, 1, GAP, 131072);
        log.key(g, 0);
        for (int how = 0; how < 6; how++) {
            checks.due("mark by " + how, log.mark(g, how), 5);
            dueMarks("mark by " + how, log, want[how]);
        }
        log.key(g, GAP);
        for (int how = 0; how < 6; how++) {
            checks.due("mark to a gap by " + how, log.mark(g, how), 5);
            dueMarks("mark to a gap by " + how, log, how == 5 ? "xxxxx" : ".....");
        }
    }

    private static void marksStay(int g) {
        MastLog log = Checks.logged(g, 1, 2, 3);
        log.key(g, 2);
        log.mark(g, 1);
        dueMarks("made", log, "xx.");
        int[] noHow = {-1, 6, Integer.MIN_VALUE, Integer.MAX_VALUE};
        for (int how : noHow) {
            checks.due("mark by " + how, log.mark(g, how), NONE);
        }
        for (int none : NO_GAUGE) {
            checks.due("mark of gauge " + none, log.mark(none, 2), NONE);
        }
        dueMarks("after refusals", log, "xx.");
        log.key(g, 0);
        log.move(g, 2, 0);
        log.read(g, 9);
        log.drop(g);
        log.drop(g);
        log.order(g);
        log.ask(g, 0, 2);
        dueMarks("after other calls", log, "xx.");
    }

    private static void fewerMarksReplaceMore(int g) {
        MastLog log = Checks.logged(g, 1, 2, 3);
        log.mark(g, 5);
        dueMarks("three", log, "xxx");
        log.read(1 - g, 4);
        checks.due("mark of the other", log.mark(1 - g, 5), 1);
        dueMarks("one", log, "x");
        log.drop(1 - g);
        checks.due("mark of none", log.mark(1 - g, 5), 0);
        dueMarks("none", log, "");
    }

    private static void ordersNumbersThenGaps(int g) {
        MastLog log = Checks.logged(g, 3, GAP, -131072, 131072, GAP, 0, 3, -1);
        checks.due("order", log.order(g), 6);
        dueOrder("order", log, -131072, -1, 0, 3, 3, 131072, GAP, GAP);
        checks.dueLog("the log itself", log, g, 3, GAP, -131072, 131072, GAP, 0, 3, -1);
        MastLog gaps = Checks.logged(g, GAP, GAP);
        checks.due("order of gaps", gaps.order(g), 0);
        dueOrder("order of gaps", gaps, GAP, GAP);
    }

    private static void orderStays(int g) {
        MastLog log = Checks.logged(g, 2, GAP, 1);
        log.order(g);
        for (int none : NO_GAUGE) {
            checks.due("order of gauge " + none, log.order(none), NONE);
        }
        dueOrder("after refusals", log, 1, 2, GAP);
        log.read(g, 0);
        log.move(g, 0, 2);
        dueOrder("after a read and a move", log, 1, 2, GAP);
        log.drop(g);
        log.drop(g);
        log.mark(g, 5);
        dueOrder("after drops and marks", log, 1, 2, GAP);
        checks.due("the next order", log.order(g), 1);
        dueOrder("the next order", log, 1, GAP);
    }

    private static void shorterOrderReplacesLonger(int g) {
        MastLog log = Checks.logged(g, 5, 4, 3);
        log.order(g);
        log.read(1 - g, GAP);
        checks.due("order of the other", log.order(1 - g), 0);
        dueOrder("order of the other", log, GAP);
        log.drop(1 - g);
        checks.due("order of none", log.order(1 - g), 0);
        dueOrder("order of none", log);
    }

    private static void ordersTheFull(int g) {
        MastLog log = new MastLog();
        int[] want = new int[24];
        for (int i = 0; i < 24; i++) {
            log.read(g, 23 - i);
            want[i] = i;
        }
        checks.due("mark of the full", log.mark(g, 5), 24);
        checks.due("the last mark of the full", log.marked(23), true);
        checks.due("order of the full", log.order(g), 24);
        dueOrder("order of the full", log, want);
    }
}
