/** The log of a weather mast whose gauges fall silent; README.md says how to use it. */
public final class MastLog {
    public static final int NONE = 2147483647;
    public static final int GAP = -2147483648;

    private static final int MOST_READINGS = 24;
    private static final int FURTHEST_NUMBER = 131072;
    private static final int EIGHTHS = 8;

    private static final int BELOW = 0;
    private static final int BELOW_OR_SAME = 1;
    private static final int ABOVE = 2;
    private static final int ABOVE_OR_SAME = 3;
    private static final int SAME = 4;
    private static final int NOT_SAME = 5;

    // The cells of a row behind those of the readings.
    private static final int HIGH = 24;
    private static final int LOW = 25;
    private static final int UPPER = 26;
    private static final int LOWER = 27;
    private static final int KEY = 28;
    private static final int CELLS = 29;

    private final Gauge warmth;
    private final Gauge pressure;
    // A log never has more readings than these rows have cells; their indices are looked at all the same.
    private final boolean[] marks;
    private final int[] sorted;
    private int markCount;
    private int sortedCount;

    public MastLog() {
        warmth = new Gauge(new Singles());
        pressure = new Gauge(new Doubles());
        marks = new boolean[MOST_READINGS];
        sorted = new int[MOST_READINGS];
    }

    public int read(int g, int v) {
        Gauge gauge = gaugeOf(g);
        if (gauge == null || !isTold(v) || gauge.isFull()) {
            return NONE;
        }
        gauge.log(worthOf(v));
        return gauge.count;
    }

    public int drop(int g) {
        Gauge gauge = gaugeOf(g);
        if (gauge == null || gauge.count == 0) {
            return NONE;
        }
        return gauge.removeLast();
    }

    public boolean limit(int g, boolean upper, int v) {
        Gauge gauge = gaugeOf(g);
        if (gauge == null || !isTold(v)) {
            return false;
        }
        return gauge.setLimit(upper, worthOf(v));
    }

    public boolean move(int g, int i, int j) {
        Gauge gauge = gaugeOf(g);
        if (gauge == null || !gauge.hasPlace(i) || !gauge.hasPlace(j)) {
            return false;
        }
        gauge.shift(i, j);
        return true;
    }

    public boolean key(int g, int v) {
        Gauge gauge = gaugeOf(g);
        if (gauge == null || !isTold(v)) {
            return false;
        }
        gauge.row.put(KEY, worthOf(v));
        return true;
    }

    public int ask(int g, int way, int how) {
        Gauge gauge = gaugeOf(g);
        if (gauge == null || !isHow(how)) {
            return NONE;
        }
        return gauge.answer(way, how);
    }

    public boolean stands(int g, int i, int j, int how) {
        Gauge gauge = gaugeOf(g);
        if (gauge == null || !gauge.hasPlace(i) || !gauge.hasPlace(j)) {
            return false;
        }
        return standsSo(gauge.row.worth(i), gauge.row.worth(j), how);
    }

    public int mark(int g, int how) {
        Gauge gauge = gaugeOf(g);
        if (gauge == null || !isHow(how)) {
            return NONE;
        }
        for (int i = 0; i < gauge.count && i < marks.length; i++) {
            marks[i] = gauge.holds(i, how);
        }
        markCount = gauge.count;
        return markCount;
    }

    public boolean marked(int i) {
        return i >= 0 && i < markCount && i < marks.length && marks[i];
    }

    public int meet(int how) {
        if (!isHow(how)) {
            return NONE;
        }
        int met = 0;
        for (int i = 0; i < warmth.count && i < pressure.count; i++) {
            if (standsSo(warmth.row.worth(i), pressure.row.worth(i), how)) {
                met++;
            }
        }
        return met;
    }

    public int order(int g) {
        Gauge gauge = gaugeOf(g);
        if (gauge == null) {
            return NONE;
        }
        int numbers = 0;
        for (int i = 0; i < gauge.count; i++) {
            int told = toldOf(gauge.row.worth(i));
            if (told != GAP) {
                sortIn(told, numbers);
                numbers++;
            }
        }
        for (int i = numbers; i < gauge.count && i < sorted.length; i++) {
            sorted[i] = GAP;
        }
        sortedCount = gauge.count;
        return numbers;
    }

    public int ordered(int i) {
        return i >= 0 && i < sortedCount && i < sorted.length ? sorted[i] : NONE;
    }

    public int at(int g, int i) {
        Gauge gauge = gaugeOf(g);
        if (gauge == null || !gauge.hasPlace(i)) {
            return NONE;
        }
        return toldOf(gauge.row.worth(i));
    }

    public int look(int g, int what) {
        Gauge gauge = gaugeOf(g);
        if (gauge == null) {
            return NONE;
        }
        switch (what) {
            case 0: return gauge.count;
            case 1: return toldOf(gauge.row.worth(HIGH));
            case 2: return toldOf(gauge.row.worth(LOW));
            case 3: return toldOf(gauge.row.worth(UPPER));
            case 4: return toldOf(gauge.row.worth(LOWER));
            case 5: return toldOf(gauge.row.worth(KEY));
            case 6: return gauge.alarm ? 1 : 0;
            case 7: return gauge.rings;
            default: return NONE;
        }
    }

    private Gauge gaugeOf(int g) {
        if (g == 0) {
            return warmth;
        }
        return g == 1 ? pressure : null;
    }

    /** Puts a number where it belongs among the first ones of the order, how many of which stand already. */
    private void sortIn(int told, int numbers) {
        if (numbers < 0 || numbers >= sorted.length) {
            return;
        }
        int place = numbers;
        while (place > 0 && sorted[place - 1] > told) {
            sorted[place] = sorted[place - 1];
            place--;
        }
        sorted[place] = told;
    }

    private static boolean isTold(int v) {
        return v == GAP || v >= -FURTHEST_NUMBER && v <= FURTHEST_NUMBER;
    }

    private static boolean isHow(int how) {
        return how >= BELOW && how <= NOT_SAME;
    }

    /**
     * What is kept for a told int. A gap is kept as the eighth part of GAP, a power of two that a single
     * holds exactly and that lies far from every number: the language leaves no NaN to keep it as.
     */
    private static double worthOf(int told) {
        return told / (double) EIGHTHS;
    }

    private static int toldOf(double worth) {
        return (int) (worth * EIGHTHS);
    }

    private static boolean isGap(double worth) {
        return toldOf(worth) == GAP;
    }

    /** Whether x stands so to y; false if there is no such how. */
    private static boolean standsSo(double x, double y, int how) {
        if (isGap(x) || isGap(y)) {
            return how == NOT_SAME;
        }
        switch (how) {
            case BELOW: return x < y;
            case BELOW_OR_SAME: return x <= y;
            case ABOVE: return x > y;
            case ABOVE_OR_SAME: return x >= y;
            case SAME: return x == y;
            case NOT_SAME: return x != y;
            default: return false;
        }
    }

    /** The cells of a gauge, all gaps at first. A cell that the row has not is a gap, and stays one. */
    private abstract static class Row {
        abstract double worth(int i);

        abstract void put(int i, double worth);
    }

    private static final class Singles extends Row {
        private final float[] kept;

        Singles() {
            kept = new float[CELLS];
            for (int i = 0; i < CELLS; i++) {
                kept[i] = (float) worthOf(GAP);
            }
        }

        double worth(int i) {
            return i >= 0 && i < CELLS ? kept[i] : worthOf(GAP);
        }

        void put(int i, double worth) {
            if (i >= 0 && i < CELLS) {
                kept[i] = (float) worth;
            }
        }
    }

    private static final class Doubles extends Row {
        private final double[] kept;

        Doubles() {
            kept = new double[CELLS];
            for (int i = 0; i < CELLS; i++) {
                kept[i] = worthOf(GAP);
            }
        }

        double worth(int i) {
            return i >= 0 && i < CELLS ? kept[i] : worthOf(GAP);
        }

        void put(int i, double worth) {
            if (i >= 0 && i < CELLS) {
                kept[i] = worth;
            }
        }
    }

    /** One gauge: its log, levels and key in a row, its alarm. */
    private static final class Gauge {
        private final Row row;
        private int count;
        private boolean alarm;
        private int rings;

        Gauge(Row row) {
            this.row = row;
        }

        boolean isFull() {
            return count >= MOST_READINGS;
        }

        boolean hasPlace(int i) {
            return i >= 0 && i < count;
        }

        void log(double x) {
            row.put(count, x);
            count++;
            if (!isGap(x)) {
                stretch(x);
                watch(x);
            }
        }

        // "Not below or the same" is not "above": it lets a number take the place of a gap.
        private void stretch(double x) {
            if (!standsSo(x, row.worth(HIGH), BELOW_OR_SAME)) {
                row.put(HIGH, x);
            }
            if (!standsSo(x, row.worth(LOW), ABOVE_OR_SAME)) {
                row.put(LOW, x);
            }
        }

        private void watch(double x) {
            boolean beyond = standsSo(x, row.worth(UPPER), ABOVE) || standsSo(x, row.worth(LOWER), BELOW);
            if (beyond && !alarm) {
                rings++;
            }
            alarm = beyond;
        }

        int removeLast() {
            count--;
            return toldOf(row.worth(count));
        }

        boolean setLimit(boolean upper, double x) {
            double newUpper = upper ? x : row.worth(UPPER);
            double newLower = upper ? row.worth(LOWER) : x;
            if (standsSo(newLower, newUpper, ABOVE)) {
                return false;
            }
            row.put(upper ? UPPER : LOWER, x);
            return true;
        }

        void shift(int from, int to) {
            double moved = row.worth(from);
            for (int k = from; k < to; k++) {
                row.put(k, row.worth(k + 1));
            }
            for (int k = from; k > to; k--) {
                row.put(k, row.worth(k - 1));
            }
            row.put(to, moved);
        }

        boolean holds(int i, int how) {
            return standsSo(row.worth(i), row.worth(KEY), how);
        }

        // At place 0 this looks before the row, where there is the gap that is wanted.
        private boolean holdsAhead(int i, int how) {
            return standsSo(row.worth(i), row.worth(i - 1), how);
        }

        int answer(int way, int how) {
            switch (way) {
                case 0: return countHolding(how);
                case 1: return count - countHolding(how);
                case 2: return firstPlace(false, how);
                case 3: return count - 1 - lastFailing(how);
                case 4: return 2 * countHolding(how) - (count - countHolding(how));
                case 5: return countEither(how);
                case 6: return countBoth(how);
                case 7: return count - countEither(how);
                case 8: return placeOrNone(firstPlace(true, how));
                case 9: return placeOrNone(lastFailing(how));
                default: return NONE;
            }
        }

        private int placeOrNone(int i) {
            return hasPlace(i) ? i : NONE;
        }

        private int countHolding(int how) {
            int found = 0;
            for (int i = 0; i < count; i++) {
                if (holds(i, how)) {
                    found++;
                }
            }
            return found;
        }

        private int countEither(int how) {
            int found = 0;
            for (int i = 0; i < count; i++) {
                if (holds(i, how) || holdsAhead(i, how)) {
                    found++;
                }
            }
            return found;
        }

        private int countBoth(int how) {
            int found = 0;
            for (int i = 0; i < count; i++) {
                if (holds(i, how) && holdsAhead(i, how)) {
                    found++;
                }
            }
            return found;
        }

        /** The first place of which it holds (or does not, as wanted), else the one behind the log. */
        private int firstPlace(boolean wanted, int how) {
            int i = 0;
            while (i < count && holds(i, how) != wanted) {
                i++;
            }
            return i;
        }

        /** The last place of which it does not hold, else -1. */
        private int lastFailing(int how) {
            int i = count - 1;
            while (i >= 0 && holds(i, how)) {
                i--;
            }
            return i;
        }
    }
}
