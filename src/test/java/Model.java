import java.util.ArrayList;
import java.util.Collections;
import java.util.List;

/** The document's promises said once more, in another way: whole numbers of eighths, null for a gap. */
final class Model {
    private static final class Gauge {
        final List<Integer> log = new ArrayList<>();
        Integer high, low, upper, lower, key;
        boolean alarm;
        int rings;
    }

    private final Gauge[] gauges = {new Gauge(), new Gauge()};
    private List<Boolean> marks = new ArrayList<>();
    private List<Integer> order = new ArrayList<>();

    private static boolean isGauge(int g) {
        return g == 0 || g == 1;
    }

    private static boolean isTold(int v) {
        return v == MastLog.GAP || Math.abs((long) v) <= 131072;
    }

    private static Integer fromTold(int v) {
        return v == MastLog.GAP ? null : Integer.valueOf(v);
    }

    private static int toTold(Integer x) {
        return x == null ? MastLog.GAP : x;
    }

    private static boolean so(Integer x, Integer y, int how) {
        if (x == null || y == null) {
            return how == 5;
        }
        int c = x.compareTo(y);
        return new boolean[] {c < 0, c <= 0, c > 0, c >= 0, c == 0, c != 0}[how];
    }

    private static boolean isHow(int how) {
        return how >= 0 && how < 6;
    }

    private boolean isPlace(int g, int i) {
        return isGauge(g) && i >= 0 && i < gauges[g].log.size();
    }

    int read(int g, int v) {
        if (!isGauge(g) || !isTold(v) || gauges[g].log.size() == 24) {
            return MastLog.NONE;
        }
        Gauge gauge = gauges[g];
        Integer x = fromTold(v);
        gauge.log.add(x);
        if (x != null) {
            gauge.high = gauge.high == null ? x : Integer.valueOf(Math.max(gauge.high, x));
            gauge.low = gauge.low == null ? x : Integer.valueOf(Math.min(gauge.low, x));
            boolean was = gauge.alarm;
            gauge.alarm = gauge.upper != null && x > gauge.upper || gauge.lower != null && x < gauge.lower;
            gauge.rings += gauge.alarm && !was ? 1 : 0;
        }
        return gauge.log.size();
    }

    int drop(int g) {
        if (!isGauge(g) || gauges[g].log.isEmpty()) {
            return MastLog.NONE;
        }
        return toTold(gauges[g].log.remove(gauges[g].log.size() - 1));
    }

    boolean limit(int g, boolean upper, int v) {
        if (!isGauge(g) || !isTold(v)) {
            return false;
        }
        Integer up = upper ? fromTold(v) : gauges[g].upper;
        Integer down = upper ? gauges[g].lower : fromTold(v);
        if (up != null && down != null && down > up) {
            return false;
        }
        gauges[g].upper = up;
        gauges[g].lower = down;
        return true;
    }

    boolean move(int g, int i, int j) {
        if (!isPlace(g, i) || !isPlace(g, j)) {
            return false;
        }
        Integer x = gauges[g].log.remove(i);
        gauges[g].log.add(j, x);
        return true;
    }

    boolean key(int g, int v) {
        if (!isGauge(g) || !isTold(v)) {
            return false;
        }
        gauges[g].key = fromTold(v);
        return true;
    }

    int ask(int g, int way, int how) {
        if (!isGauge(g) || way < 0 || way > 9 || !isHow(how)) {
            return MastLog.NONE;
        }
        List<Integer> log = gauges[g].log;
        int yes = 0, lead = 0, trail = 0, either = 0, both = 0, neither = 0;
        int first = MastLog.NONE, last = MastLog.NONE;
        boolean leading = true;
        for (int i = 0; i < log.size(); i++) {
            boolean holds = so(log.get(i), gauges[g].key, how);
            boolean ahead = so(log.get(i), i == 0 ? null : log.get(i - 1), how);
            yes += holds ? 1 : 0;
            leading = leading && holds;
            lead += leading ? 1 : 0;
            trail = holds ? trail + 1 : 0;
            either += holds || ahead ? 1 : 0;
            both += holds && ahead ? 1 : 0;
            neither += !holds && !ahead ? 1 : 0;
            first = holds && first == MastLog.NONE ? i : first;
            last = holds ? last : i;
        }
        int no = log.size() - yes;
        return new int[] {yes, no, lead, trail, 2 * yes - no, either, both, neither, first, last}[way];
    }

    boolean stands(int g, int i, int j, int how) {
        return isPlace(g, i) && isPlace(g, j) && isHow(how) && so(gauges[g].log.get(i), gauges[g].log.get(j), how);
    }

    int mark(int g, int how) {
        if (!isGauge(g) || !isHow(how)) {
            return MastLog.NONE;
        }
        marks = new ArrayList<>();
        for (Integer x : gauges[g].log) {
            marks.add(so(x, gauges[g].key, how));
        }
        return marks.size();
    }

    boolean marked(int i) {
        return i >= 0 && i < marks.size() && marks.get(i);
    }

    int meet(int how) {
        if (!isHow(how)) {
            return MastLog.NONE;
        }
        int met = 0;
        for (int i = 0; isPlace(0, i) && isPlace(1, i); i++) {
            met += so(gauges[0].log.get(i), gauges[1].log.get(i), how) ? 1 : 0;
        }
        return met;
    }

    int order(int g) {
        if (!isGauge(g)) {
            return MastLog.NONE;
        }
        List<Integer> numbers = new ArrayList<>();
        for (Integer x : gauges[g].log) {
            if (x != null) {
                numbers.add(x);
            }
        }
        Collections.sort(numbers);
        order = new ArrayList<>(numbers);
        while (order.size() < gauges[g].log.size()) {
            order.add(null);
        }
        return numbers.size();
    }

    int ordered(int i) {
        return i >= 0 && i < order.size() ? toTold(order.get(i)) : MastLog.NONE;
    }

    int at(int g, int i) {
        return isPlace(g, i) ? toTold(gauges[g].log.get(i)) : MastLog.NONE;
    }

    int look(int g, int what) {
        if (!isGauge(g) || what < 0 || what > 7) {
            return MastLog.NONE;
        }
        Gauge x = gauges[g];
        return new int[] {x.log.size(), toTold(x.high), toTold(x.low), toTold(x.upper), toTold(x.lower),
            toTold(x.key), x.alarm ? 1 : 0, x.rings}[what];
    }
}
