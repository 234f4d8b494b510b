/** Promises 21 to 28: sorts and means. */
public final class SortsTest {
    private static final Due DUE = new Due();
    private static final long LOST_UNKNOWN = KingsInches.LOST - 1;
    private static final long LOST_OUTSIDE = KingsInches.LOST - 2;
    private static final long LOST_STATE = KingsInches.LOST - 3;
    private static final long LOST_NO = KingsInches.LOST - 5;

    public static void main(String[] args) {
        mix();
        fall();
        alone();
        meanAndMode();
        about();
        beside();
        shorter();
        DUE.end();
    }

    private static void mixIs(int one, int two, int line, int g, long upper, long lower) {
        KingsInches x = new KingsInches();
        DUE.due("mix(" + one + ", " + two + ", 1, " + line + ", " + g + ")", upper, lower,
                x.mix(one, two, 1, line, g, 0), x.mix(one, two, 1, line, g, 1));
    }

    private static void mix() {
        mixIs(10, 20, 0, 50, 15, 1);
        mixIs(10, 20, 0, 25, 35, 2);
        mixIs(10, 20, 0, 0, 20, 1);
        mixIs(10, 20, 0, 100, 10, 1);
        mixIs(0, 20, 0, 50, 81, 7);
        mixIs(0, 0, 0, 50, 1, 3);
        mixIs(10, 20, 21, 99, 21, 1);
        mixIs(10, 20, 21, 0, 21, 1);
        mixIs(10, 20, 21, 100, LOST_NO, LOST_NO);
        mixIs(20, 10, 21, 0, LOST_NO, LOST_NO);
        mixIs(20, 10, 21, 1, 21, 1);
        mixIs(10, 20, 22, 50, LOST_NO, LOST_NO);
        KingsInches x = new KingsInches();
        DUE.due("mix, WIDTH 8", 40, 1, x.mix(30, 50, 8, 0, 50, 0), x.mix(30, 50, 8, 0, 50, 1));
        int[][] wrong = {{-1, 0, 1, 0, 0, 0}, {64, 0, 1, 0, 0, 0}, {0, -1, 1, 0, 0, 0}, {0, 64, 1, 0, 0, 0},
            {0, 0, 0, 0, 0, 0}, {0, 0, 9, 0, 0, 0}, {0, 0, 1, -1, 0, 0}, {0, 0, 1, 64, 0, 0},
            {0, 0, 1, 0, -1, 0}, {0, 0, 1, 0, 101, 0}, {0, 0, 1, 0, 0, -1}, {0, 0, 1, 63, 0, 2}};
        for (int[] w : wrong) {
            DUE.due("mix, a number outside", LOST_OUTSIDE, x.mix(w[0], w[1], w[2], w[3], w[4], w[5]));
        }
    }

    private static void fallIs(int one, int two, int line, int g, int h, long upper, long lower) {
        KingsInches x = new KingsInches();
        DUE.due("fall(" + one + ", " + two + ", 1, " + line + ", " + g + ", " + h + ")", upper, lower,
                x.fall(one, two, 1, line, g, h, 0), x.fall(one, two, 1, line, g, h, 1));
    }

    private static void fall() {
        fallIs(10, 20, 0, 25, 75, 5, 1);
        fallIs(10, 20, 0, 75, 25, -5, 1);
        fallIs(10, 20, 0, 25, 26, 1, 10);
        fallIs(10, 20, 0, 26, 25, -1, 10);
        fallIs(10, 20, 0, 40, 40, 0, 1);
        fallIs(10, 20, 21, 0, 99, 0, 1);
        fallIs(10, 20, 21, 100, 99, LOST_NO, LOST_NO);
        fallIs(10, 20, 21, 99, 100, LOST_NO, LOST_NO);
        fallIs(10, 20, 22, 50, 50, LOST_NO, LOST_NO);
        // MIX 81 by 7 less MIX (75 and 2000) by 325.
        fallIs(0, 20, 0, 50, 75, 81 * 13 - 83 * 7, 91);
        KingsInches x = new KingsInches();
        int[][] wrong = {{-1, 0, 1, 0, 0, 0, 0}, {64, 0, 1, 0, 0, 0, 0}, {0, -1, 1, 0, 0, 0, 0},
            {0, 64, 1, 0, 0, 0, 0}, {0, 0, 0, 0, 0, 0, 0}, {0, 0, 9, 0, 0, 0, 0}, {0, 0, 1, -1, 0, 0, 0},
            {0, 0, 1, 64, 0, 0, 0}, {0, 0, 1, 0, -1, 0, 0}, {0, 0, 1, 0, 101, 0, 0}, {0, 0, 1, 0, 0, -1, 0},
            {0, 0, 1, 0, 0, 101, 0}, {0, 0, 1, 0, 0, 0, -1}, {0, 0, 1, 63, 0, 0, 2}};
        for (int[] w : wrong) {
            DUE.due("fall, a number outside", LOST_OUTSIDE,
                    x.fall(w[0], w[1], w[2], w[3], w[4], w[5], w[6]));
        }
    }

    private static void aloneIs(int one, int two, int line, int shares, int then, int end, long upper, long lower) {
        KingsInches x = new KingsInches();
        DUE.due("alone(" + one + ", " + two + ", 1, " + line + ", " + shares + ", " + then + ", " + end + ")",
                upper, lower, x.alone(one, two, 1, line, shares, then, end, 0),
                x.alone(one, two, 1, line, shares, then, end, 1));
    }

    private static void alone() {
        aloneIs(10, 20, 0, 25050, 50075, 0, 0, 1);
        aloneIs(10, 20, 0, 25050, 50075, 1, 5, 1);
        aloneIs(20, 10, 0, 25050, 50075, 0, -5, 1);
        aloneIs(20, 10, 0, 25050, 50075, 1, 0, 1);
        aloneIs(10, 20, 0, 50050, 25025, 0, -5, 2);
        aloneIs(10, 20, 0, 50050, 25025, 1, -5, 2);
        aloneIs(10, 20, 0, 100, 100, 0, -10, 1);
        aloneIs(10, 20, 0, 100, 100, 1, 10, 1);
        aloneIs(10, 20, 0, 100100, 0, 1, -10, 1);
        aloneIs(10, 20, 21, 99100, 0, 0, LOST_NO, LOST_NO);
        aloneIs(10, 20, 21, 0, 99100, 0, LOST_NO, LOST_NO);
        aloneIs(10, 20, 21, 99, 99099, 0, 0, 1);
        aloneIs(20, 10, 21, 0, 50050, 0, LOST_NO, LOST_NO);
        aloneIs(20, 10, 21, 50050, 50, 1, LOST_NO, LOST_NO);
        aloneIs(20, 10, 21, 1100, 1100, 1, 0, 1);
        aloneIs(10, 20, 22, 50050, 50050, 1, LOST_NO, LOST_NO);
        int[] outside = {-1, 101, 999, 1000, 50049, 100101, 101101, 100099, 1000000, Integer.MIN_VALUE,
            Integer.MAX_VALUE};
        for (int shares : outside) {
            aloneIs(10, 20, 0, shares, 0, 0, LOST_OUTSIDE, LOST_OUTSIDE);
            aloneIs(10, 20, 0, 0, shares, 0, LOST_OUTSIDE, LOST_OUTSIDE);
        }
        KingsInches x = new KingsInches();
        int[][] wrong = {{-1, 0, 1, 0, 0, 0}, {64, 0, 1, 0, 0, 0}, {0, -1, 1, 0, 0, 0}, {0, 64, 1, 0, 0, 0},
            {0, 0, 0, 0, 0, 0}, {0, 0, 9, 0, 0, 0}, {0, 0, 1, -1, 0, 0}, {0, 0, 1, 64, 0, 0},
            {0, 0, 1, 0, -1, 0}, {0, 0, 1, 0, 2, 0}, {0, 0, 1, 0, 0, -1}, {0, 0, 1, 63, 0, 2}};
        for (int[] w : wrong) {
            DUE.due("alone, a number outside", LOST_OUTSIDE,
                    x.alone(w[0], w[1], w[2], w[3], 0, 0, w[4], w[5]));
        }
    }

    private static void meanAndMode() {
        KingsInches x = new KingsInches();
        DUE.due("mean of nobody", 0, 1, x.mean(0, 0), x.mean(0, 1));
        DUE.due("mode of nobody", -6, x.mode(0));
        x.men(0, 0, 9);
        DUE.due("mean of HEIGHT 0", 0, 1, x.mean(0, 0), x.mean(0, 1));
        DUE.due("mode 0", 0, x.mode(0));
        x.men(0, 0, 0);
        x.men(0, 5, 1);
        x.men(0, 6, 2);
        DUE.due("mean 17 by 3", 17, 3, x.mean(0, 0), x.mean(0, 1));
        DUE.due("mode 6", 6, x.mode(0));
        x.men(0, 63, 2);
        DUE.due("mode, the first of two", 6, x.mode(0));
        x.men(0, 63, 3);
        DUE.due("mode 63", 63, x.mode(0));
        DUE.due("mean(6, 2)", LOST_UNKNOWN, x.mean(6, 2));
        DUE.due("mean(-1, 0)", LOST_UNKNOWN, x.mean(-1, 0));
        DUE.due("mean(0, 2)", LOST_OUTSIDE, x.mean(0, 2));
        DUE.due("mean(0, -1)", LOST_OUTSIDE, x.mean(0, -1));
        DUE.due("mode(6)", -1, x.mode(6));
        DUE.due("mode(-1)", -1, x.mode(-1));
    }

    private static void aboutIs(KingsInches x, int quarters, int end, long upper, long lower) {
        DUE.due("about " + quarters + ", " + end, upper, lower,
                x.about(1, quarters, end, 0), x.about(1, quarters, end, 1));
    }

    private static void about() {
        KingsInches x = new KingsInches();
        x.set(1, 2, 2);
        aboutIs(x, 3, 0, 0, 1);
        aboutIs(x, 3, 1, 0, 1);
        x.men(1, 2, 1);
        x.men(1, 30, 1);
        x.men(1, 62, 1);
        aboutIs(x, 0, 0, 94, 3);
        aboutIs(x, 0, 1, 94, 3);
        aboutIs(x, 1, 0, 91, 3);
        aboutIs(x, 1, 1, 97, 3);
        aboutIs(x, 8, 0, 76, 3);
        aboutIs(x, 8, 1, 37, 1);
        x.men(1, 30, 0);
        x.men(1, 62, 0);
        aboutIs(x, 8, 0, 0, 1);
        DUE.due("about, KIND 0", LOST_STATE, x.about(0, 0, 0, 0));
        x.set(0, 2, 1);
        DUE.due("about, KIND 1", LOST_STATE, x.about(0, 0, 0, 0));
        DUE.due("about: UNKNOWN first", LOST_UNKNOWN, x.about(6, 9, 2, 2));
        DUE.due("about: OUTSIDE ahead of STATE", LOST_OUTSIDE, x.about(0, 9, 0, 0));
        DUE.due("about quarters -1", LOST_OUTSIDE, x.about(1, -1, 0, 0));
        DUE.due("about quarters 9", LOST_OUTSIDE, x.about(1, 9, 0, 0));
        DUE.due("about end -1", LOST_OUTSIDE, x.about(1, 0, -1, 0));
        DUE.due("about end 2", LOST_OUTSIDE, x.about(1, 0, 2, 0));
        DUE.due("about part -1", LOST_OUTSIDE, x.about(1, 0, 0, -1));
        DUE.due("about part 2", LOST_OUTSIDE, x.about(1, 0, 0, 2));
    }

    private static void beside() {
        KingsInches x = new KingsInches();
        x.men(0, 5, 1);
        x.men(0, 6, 2);
        x.men(1, 10, 4);
        DUE.due("beside, KIND 0", LOST_STATE, x.beside(0, 1, 1, 0));
        x.set(0, 2, 2);
        DUE.due("beside, KIND 2", LOST_STATE, x.beside(0, 1, 1, 0));
        x.set(0, 2, 1);
        DUE.due("beside", -13, 3, x.beside(0, 1, 1, 0), x.beside(0, 1, 1, 1));
        DUE.due("beside one of nobody", 17, 3, x.beside(0, 2, 1, 0), x.beside(0, 2, 1, 1));
        Due.take(x, 0, "*:10");
        DUE.due("beside, by the other one's LINE", -10, 3, x.beside(0, 1, 1, 0), x.beside(0, 1, 1, 1));
        x.men(0, 5, 0);
        DUE.due("beside itself", 0, 1, x.beside(0, 0, 1, 0), x.beside(0, 0, 1, 1));
        x.set(3, 2, 1);
        DUE.due("beside, no MEN", LOST_STATE, x.beside(3, 1, 1, 0));
        DUE.due("beside: no such first BOOK", LOST_UNKNOWN, x.beside(6, 0, 0, 2));
        DUE.due("beside: no such other BOOK", LOST_UNKNOWN, x.beside(0, 6, 1, 0));
        DUE.due("beside: UNKNOWN ahead of STATE", LOST_UNKNOWN, x.beside(3, -1, 9, 0));
        DUE.due("beside: OUTSIDE ahead of STATE", LOST_OUTSIDE, x.beside(3, 1, 9, 0));
        DUE.due("beside w 0", LOST_OUTSIDE, x.beside(0, 1, 0, 0));
        DUE.due("beside part 2", LOST_OUTSIDE, x.beside(0, 1, 1, 2));
        DUE.due("beside part -1", LOST_OUTSIDE, x.beside(0, 1, 1, -1));
    }

    /** With SLACK 2 a BOOK of four men of one HEIGHT has a SPAN of one less to one more. */
    private static void shorter() {
        KingsInches x = new KingsInches();
        x.men(0, 10, 4);
        x.men(1, 20, 4);
        x.men(2, 9, 4);
        x.men(3, 8, 4);
        x.men(4, 7, 4);
        DUE.due("taller", 0, x.shorter(0, 1, 1, 0));
        DUE.due("shorter", 2, x.shorter(1, 0, 1, 0));
        DUE.due("shorter with SLACK 2", 2, x.shorter(1, 0, 1, 2));
        DUE.due("all may be", 0, x.shorter(1, 0, 1, 3));
        DUE.due("the same", 0, x.shorter(0, 0, 1, 0));
        DUE.due("perhaps shorter", 1, x.shorter(0, 2, 1, 2));
        DUE.due("perhaps shorter, the ends touch", 1, x.shorter(0, 3, 1, 2));
        DUE.due("surely shorter by one", 2, x.shorter(0, 4, 1, 2));
        DUE.due("begins higher, both overlap", 0, x.shorter(2, 0, 1, 2));
        Due.take(x, 0, "y=1:12");
        x.set(4, 0, 1);
        DUE.due("by its own LINE", 0, x.shorter(0, 4, 1, 0));
        DUE.due("shorter: no such first BOOK", -1, x.shorter(6, 0, 0, 0));
        DUE.due("shorter: no such other BOOK", -1, x.shorter(0, 6, 0, 0));
        DUE.due("shorter w 0", -2, x.shorter(0, 1, 0, 0));
        DUE.due("shorter w 9", -2, x.shorter(0, 1, 9, 0));
        DUE.due("shorter slack -1", -2, x.shorter(0, 1, 1, -1));
        DUE.due("shorter slack 1000", -2, x.shorter(0, 1, 1, 1000));
    }
}
