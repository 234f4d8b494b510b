/** A call with numbers that lie within their bounds, and these bounds. */
record Row(boolean fraction, String call, int[] numbers, int[]... bounds) {
    static final int[] BOOK = {0, 5}, HEIGHT = {0, 63}, WIDTH = {1, 8}, EITHER = {0, 1};
    static final int[] SLACK = {0, 999}, SHARE = {0, 100}, SHARES = {0, 100100};
    static final int[] SEED = {0, 9999}, MADE = {1, 200}, WORLDS = {1, 8};

    /** Bounds that another row tries. */
    static final int[] ELSEWHERE = null;

    static final long LOST = -1000000000000000000L;

    static int[] of(int... numbers) {
        return numbers;
    }

    static Row whole(String call, int[] numbers, int[]... bounds) {
        return new Row(false, call, numbers, bounds);
    }

    static Row fraction(String call, int[] numbers, int[]... bounds) {
        return new Row(true, call, numbers, bounds);
    }

    int[] with(int place, int v) {
        int[] other = numbers.clone();
        other[place] = v;
        return other;
    }

    boolean tries(int place) {
        return bounds[place] != ELSEWHERE;
    }

    /** The first ones that are refused on both sides, and the farthest ones. */
    int[] outside(int place) {
        return of(bounds[place][0] - 1, bounds[place][1] + 1, Integer.MIN_VALUE, Integer.MAX_VALUE);
    }

    int refusal(int place) {
        return bounds[place] == BOOK ? KingsInches.UNKNOWN : KingsInches.OUTSIDE;
    }

    /** Fractions are refused with LOST and the refusal. */
    long told(int refusal) {
        return fraction ? LOST + refusal : refusal;
    }
}
