import java.util.Arrays;

/** The boundary cases of promises 9, 10, 12 and 13: mark, marked, order, ordered. */
public final class MarkAndOrderEdgeTest {
    private static final int NONE = MastLog.NONE;
    private static final int GAP = MastLog.GAP;

    public static void main(String[] args) {
        Cases.run(MarkAndOrderEdgeTest.class);
    }

    static void promise09_mark_ofAnEmptyLogIsNought(Checks checks, int g) {
        for (int how = 0; how < 6; how++) {
            MastLog log = new MastLog();
            checks.due("mark of a new one by " + how, log.mark(g, how), 0);
            checks.dueMarks("mark of a new one by " + how, log, "");
        }
    }

    static void promise09_mark_ofAnEmptyLogTakesTheOldMarksAway(Checks checks, int g) {
        MastLog log = Checks.filled(g, 0, 1);
        log.mark(g, 5);
        checks.due("mark of the empty other", log.mark(1 - g, 5), 0);
        checks.dueMarks("mark of the empty other", log, "");
    }

    static void promise09_mark_ofAFullLogIs24(Checks checks, int g) {
        MastLog log = Checks.filled(g, 0, 1);
        log.key(g, 23);
        checks.due("mark all below 23", log.mark(g, 0), 24);
        checks.dueMarks("mark all below 23", log, "xxxxxxxxxxxxxxxxxxxxxxx.");
        checks.due("mark the same as 23", log.mark(g, 4), 24);
        checks.dueMarks("mark the same as 23", log, ".......................x");
    }

    static void promise09_mark_countsThoseThatAreNotSetToo(Checks checks, int g) {
        MastLog log = Checks.logged(g, 1, GAP, 3);
        checks.due("none is set", log.mark(g, 4), 3);
        checks.dueMarks("none is set", log, "...");
    }

    static void promise09_mark_theFirstAndTheLastHow(Checks checks, int g) {
        MastLog log = Checks.logged(g, -131072, GAP, 131072);
        log.key(g, 131072);
        checks.due("how 0", log.mark(g, 0), 3);
        checks.dueMarks("how 0", log, "x..");
        checks.due("how 5", log.mark(g, 5), 3);
        checks.dueMarks("how 5", log, "xx.");
    }

    static void promise09_mark_theMarksStayWhereThereIsNoSuchHow(Checks checks, int g) {
        for (int how : Edges.NO_HOW) {
            checks.dueNoneEverywhere("mark by " + how, g, x -> x.mark(g, how));
            checks.dueNoneEverywhere("mark of the other by " + how, g, x -> x.mark(1 - g, how));
        }
    }

    static void promise09_mark_theMarksStayWhereThereIsNoSuchGauge(Checks checks, int g) {
        for (int none : Edges.NO_GAUGE) {
            for (int how = 0; how < 6; how++) {
                int asked = how;
                checks.dueNoneEverywhere("mark of gauge " + none + " by " + how, g, x -> x.mark(none, asked));
            }
        }
    }

    static void promise09_mark_byTheKeyOfItsOwnGauge(Checks checks, int g) {
        MastLog log = Checks.logged(g, 1, 2);
        log.key(g, 2);
        log.key(1 - g, 1);
        log.mark(g, 4);
        checks.dueMarks("the same as 2", log, ".x");
    }

    static void promise09_mark_byAKeyThatIsAGap(Checks checks, int g) {
        MastLog log = Checks.logged(g, -131072, GAP, 131072);
        for (int how = 0; how < 5; how++) {
            checks.due("by " + how, log.mark(g, how), 3);
            checks.dueMarks("by " + how, log, "...");
        }
        checks.due("by 5", log.mark(g, 5), 3);
        checks.dueMarks("by 5", log, "xxx");
    }

    static void promise09_mark_nothingElseChanges(Checks checks, int g) {
        for (Scene scene : Scene.values()) {
            checks.dueChangesOnly(scene + ": mark", scene.make(g), x -> x.mark(g, 0), "marked(");
            checks.dueChangesOnly(scene + ": mark of the other", scene.make(g), x -> x.mark(1 - g, 5), "marked(");
        }
    }

    static void promise10_marked_falseBeforeAnyMark(Checks checks, int g) {
        checks.dueMarks("before a mark", Checks.filled(g, 0, 1), "");
    }

    static void promise10_marked_theLastMarkAndTheFirstBehindIt(Checks checks, int g) {
        for (int count = 1; count <= 24; count++) {
            MastLog log = new MastLog();
            for (int i = 0; i < count; i++) {
                log.read(g, i);
            }
            log.mark(g, 5);
            checks.due(count + " marks: the first", log.marked(0), true);
            checks.due(count + " marks: the last", log.marked(count - 1), true);
            checks.due(count + " marks: behind the last", log.marked(count), false);
            checks.due(count + " marks: before the first", log.marked(-1), false);
        }
    }

    static void promise10_marked_falseWhereThereIsNoneSuch(Checks checks, int g) {
        for (int i : Edges.noPlace(24)) {
            MastLog log = Checks.filled(g, 0, 1);
            log.mark(g, 5);
            checks.dueFalse("marked " + i, log, x -> x.marked(i));
        }
    }

    static void promise10_marked_falseWhereOnlyFormerMarksWere(Checks checks, int g) {
        MastLog log = Checks.filled(g, 0, 1);
        log.mark(g, 5);
        log.read(1 - g, 0);
        log.mark(1 - g, 5);
        checks.dueMarks("one mark behind 24", log, "x");
        log.read(1 - g, 0);
        log.read(1 - g, 0);
        checks.dueMarks("reads make no marks", log, "x");
    }

    static void promise10_marked_asItWasWhenMarked(Checks checks, int g) {
        MastLog log = Checks.logged(g, 1, 2, 3);
        log.key(g, 2);
        log.mark(g, 1);
        log.key(g, 0);
        log.move(g, 2, 0);
        log.drop(g);
        log.drop(g);
        checks.dueMarks("behind a key, a move and drops", log, "xx.");
    }

    static void promise10_marked_changesNothing(Checks checks, int g) {
        for (Scene scene : Scene.values()) {
            checks.dueChangesOnly(scene + ": marked", scene.make(g), x -> x.marked(0));
            checks.dueFalse(scene + ": marked 24", scene.make(g), x -> x.marked(24));
        }
    }

    static void promise12_order_ofAnEmptyLogIsNought(Checks checks, int g) {
        MastLog log = new MastLog();
        checks.due("order of a new one", log.order(g), 0);
        checks.dueOrder("order of a new one", log);
    }

    static void promise12_order_ofAnEmptyLogTakesTheOldOneAway(Checks checks, int g) {
        MastLog log = Checks.filled(g, 0, 1);
        log.order(g);
        checks.due("order of the empty other", log.order(1 - g), 0);
        checks.dueOrder("order of the empty other", log);
    }

    static void promise12_order_ofGapsAloneHasNoNumbers(Checks checks, int g) {
        MastLog one = Checks.logged(g, GAP);
        checks.due("order of a gap", one.order(g), 0);
        checks.dueOrder("order of a gap", one, GAP);
        MastLog full = Checks.filled(g, GAP, 0);
        int[] want = new int[24];
        Arrays.fill(want, GAP);
        checks.due("order of 24 gaps", full.order(g), 0);
        checks.dueOrder("order of 24 gaps", full, want);
    }

    static void promise12_order_ofAFullLogThatStandsTheOtherWayRound(Checks checks, int g) {
        MastLog log = Checks.filled(g, 131072, -11397);
        int[] want = new int[24];
        for (int i = 0; i < 24; i++) {
            want[i] = 131072 - 11397 * (23 - i);
        }
        checks.due("order", log.order(g), 24);
        checks.dueOrder("order", log, want);
    }

    static void promise12_order_ofAFullLogThatIsInOrder(Checks checks, int g) {
        MastLog log = Checks.filled(g, -131072, 1);
        checks.due("order", log.order(g), 24);
        for (int i = 0; i < 24; i++) {
            checks.due("ordered " + i, log.ordered(i), -131072 + i);
        }
    }

    static void promise12_order_gapsComeLastBehindTheHighestNumber(Checks checks, int g) {
        MastLog log = Checks.logged(g, GAP, 131072, GAP, -131072, 0);
        checks.due("order", log.order(g), 3);
        checks.dueOrder("order", log, -131072, 0, 131072, GAP, GAP);
    }

    static void promise12_order_theSameNumberStandsAsOftenAsItWasRead(Checks checks, int g) {
        MastLog log = Checks.logged(g, 2, -1, 2, GAP, -1, 2);
        checks.due("order", log.order(g), 5);
        checks.dueOrder("order", log, -1, -1, 2, 2, 2, GAP);
    }

    static void promise12_order_theOrderStaysWhereThereIsNoSuchGauge(Checks checks, int g) {
        for (int none : Edges.NO_GAUGE) {
            checks.dueNoneEverywhere("order of gauge " + none, g, x -> x.order(none));
        }
    }

    static void promise12_order_staysTillTheNextOne(Checks checks, int g) {
        MastLog log = Checks.logged(g, 2, GAP, 1);
        log.order(g);
        log.read(g, 0);
        checks.dueOrder("behind a read", log, 1, 2, GAP);
        log.move(g, 0, 3);
        checks.dueOrder("behind a move", log, 1, 2, GAP);
        log.drop(g);
        log.drop(g);
        checks.dueOrder("behind drops", log, 1, 2, GAP);
        log.mark(g, 5);
        log.key(g, 9);
        log.limit(g, true, 9);
        checks.dueOrder("behind a mark, a key and a limit", log, 1, 2, GAP);
        log.order(1 - g);
        checks.dueOrder("the next one", log);
    }

    static void promise12_order_nothingElseChanges(Checks checks, int g) {
        for (Scene scene : Scene.values()) {
            checks.dueChangesOnly(scene + ": order", scene.make(g), x -> x.order(g), "ordered(");
            checks.dueChangesOnly(scene + ": order of the other", scene.make(g), x -> x.order(1 - g), "ordered(");
        }
    }

    static void promise13_ordered_noneBeforeAnyOrder(Checks checks, int g) {
        checks.dueOrder("before an order", Checks.filled(g, 0, 1));
    }

    static void promise13_ordered_theLastPlaceAndTheFirstBehindIt(Checks checks, int g) {
        for (int count = 1; count <= 24; count++) {
            MastLog log = new MastLog();
            for (int i = count; i > 0; i--) {
                log.read(g, i);
            }
            log.order(g);
            checks.due(count + " in order: the first", log.ordered(0), 1);
            checks.due(count + " in order: the last", log.ordered(count - 1), count);
            checks.due(count + " in order: behind the last", log.ordered(count), NONE);
            checks.due(count + " in order: before the first", log.ordered(-1), NONE);
        }
    }

    static void promise13_ordered_noneWhereThereIsNoneSuch(Checks checks, int g) {
        for (int i : Edges.noPlace(24)) {
            MastLog log = Checks.filled(g, 0, 1);
            log.order(g);
            checks.dueNone("ordered " + i, log, x -> x.ordered(i));
        }
    }

    static void promise13_ordered_noneWhereOnlyAFormerOrderWas(Checks checks, int g) {
        MastLog log = Checks.filled(g, 0, 1);
        log.order(g);
        log.read(1 - g, 7);
        log.order(1 - g);
        checks.dueOrder("one behind 24", log, 7);
        log.read(1 - g, 6);
        checks.dueOrder("reads make no order", log, 7);
    }

    static void promise13_ordered_aGapIsAPlaceAndToldAsGap(Checks checks, int g) {
        MastLog log = Checks.logged(g, GAP, 4);
        log.order(g);
        checks.due("the number", log.ordered(0), 4);
        checks.due("the gap", log.ordered(1), GAP);
        checks.due("behind it", log.ordered(2), NONE);
    }

    static void promise13_ordered_changesNothing(Checks checks, int g) {
        for (Scene scene : Scene.values()) {
            checks.dueChangesOnly(scene + ": ordered", scene.make(g), x -> x.ordered(0));
            checks.dueNone(scene + ": ordered 24", scene.make(g), x -> x.ordered(24));
        }
    }
}
