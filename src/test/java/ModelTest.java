import java.util.Random;

/** Every promise: many runs of calls, right and wrong ones mixed, answered by the class and by the model. */
public final class ModelTest {
    private static final int RUNS = 4000;
    private static final int CALLS = 512;
    private static final Checks checks = new Checks("ModelTest");
    private static Random random;
    private static int spread;

    public static void main(String[] args) {
        for (int run = 0; run < RUNS; run++) {
            random = new Random(run);
            spread = new int[] {2, 20, 131072}[run % 3];
            MastLog log = new MastLog();
            Model model = new Model();
            for (int call = 0; call < CALLS; call++) {
                oneCall("run " + run + ", call " + call + ": ", log, model);
            }
        }
        if (!checks.finish()) {
            System.exit(1);
        }
    }

    private static int wild() {
        int[] edges = {Integer.MIN_VALUE, Integer.MIN_VALUE + 1, Integer.MAX_VALUE, -131073, 131073, -1, 24, 28, 29};
        return random.nextBoolean() ? edges[random.nextInt(edges.length)] : random.nextInt();
    }

    /** Mostly one of the first n from 0 on. */
    private static int below(int n) {
        return random.nextInt(40) == 0 ? wild() : random.nextInt(40) == 0 ? n : random.nextInt(n);
    }

    private static int told() {
        int kind = random.nextInt(20);
        if (kind == 0) {
            return wild();
        }
        return kind < 5 ? MastLog.GAP : random.nextInt(2 * spread + 1) - spread;
    }

    private static void oneCall(String when, MastLog log, Model model) {
        int kind = random.nextInt(20);
        int g = below(2);
        int i = below(24);
        int j = below(24);
        int how = below(6);
        int v = told();
        if (kind < 7) {
            changes(when, log, model, kind, g, v);
            return;
        }
        switch (kind) {
            case 7: checks.due(when + "move", log.move(g, i, j), model.move(g, i, j)); break;
            case 8: checks.due(when + "mark", log.mark(g, how), model.mark(g, how)); break;
            case 9: checks.due(when + "marked", log.marked(i), model.marked(i)); break;
            case 10: checks.due(when + "meet", log.meet(how), model.meet(how)); break;
            case 11: checks.due(when + "order", log.order(g), model.order(g)); break;
            case 12: checks.due(when + "ordered", log.ordered(i), model.ordered(i)); break;
            case 13: checks.due(when + "at", log.at(g, i), model.at(g, i)); break;
            case 14: checks.due(when + "stands", log.stands(g, i, j, how), model.stands(g, i, j, how)); break;
            case 15:
            case 16:
                int what = below(8);
                checks.due(when + "look " + what, log.look(g, what), model.look(g, what));
                break;
            default:
                int way = below(10);
                checks.due(when + "ask " + way + ", " + how, log.ask(g, way, how), model.ask(g, way, how));
        }
    }

    private static void changes(String when, MastLog log, Model model, int kind, int g, int v) {
        boolean upper = random.nextBoolean();
        switch (kind) {
            case 4: checks.due(when + "drop", log.drop(g), model.drop(g)); break;
            case 5: checks.due(when + "limit", log.limit(g, upper, v), model.limit(g, upper, v)); break;
            case 6: checks.due(when + "key", log.key(g, v), model.key(g, v)); break;
            default: checks.due(when + "read", log.read(g, v), model.read(g, v));
        }
    }
}
