/** The first inputs that are refused, the furthest ones, and some that a narrower type would let through. */
final class Edges {
    static final int[] NO_GAUGE = {-1, 2, 256, 65537, Integer.MIN_VALUE, Integer.MIN_VALUE + 1, Integer.MAX_VALUE};
    static final int[] NO_HOW = {-1, 6, 256, 65541, Integer.MIN_VALUE, Integer.MIN_VALUE + 5, Integer.MAX_VALUE};
    static final int[] NO_WAY = {-1, 10, 256, 65545, Integer.MIN_VALUE, Integer.MIN_VALUE + 9, Integer.MAX_VALUE};
    static final int[] NO_WHAT = {-1, 8, 256, 65543, Integer.MIN_VALUE, Integer.MIN_VALUE + 7, Integer.MAX_VALUE};
    static final int[] NOT_TOLD = {
        -131073, 131073, -262144, 262144, MastLog.GAP + 1, MastLog.GAP + 131072, MastLog.NONE - 1, MastLog.NONE,
    };
    /** The numbers at both ends, those beside them, those round nought, and a gap. */
    static final int[] TOLD = {
        -131072, -131071, -65537, -8, -1, 0, 1, 8, 65537, 131071, 131072, MastLog.GAP,
    };

    private Edges() {
    }

    /** The places that a row of so many has not: before it, behind it, and far away. */
    static int[] noPlace(int count) {
        int[] far = {-1, -2, count + 256, 65536, Integer.MIN_VALUE, Integer.MIN_VALUE + 1, Integer.MAX_VALUE};
        int behind = 30 - count;
        int[] places = new int[behind + far.length];
        for (int k = 0; k < behind; k++) {
            places[k] = count + k;
        }
        System.arraycopy(far, 0, places, behind, far.length);
        return places;
    }
}
