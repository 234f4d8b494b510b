/** Promises 16 to 20: heaps and young ones. */
public final class HeapsTest {
    private static final Due DUE = new Due();
    private static final long LOST_UNKNOWN = KingsInches.LOST - 1;
    private static final long LOST_OUTSIDE = KingsInches.LOST - 2;

    public static void main(String[] args) {
        written();
        writtenEdges();
        back();
        pile();
        grown();
        right();
        DUE.end();
    }

    private static void writtenIs(KingsInches x, int line, int stands, int at, long upper, long lower) {
        DUE.due("written(" + line + ", " + stands + ", " + at + ")", upper, lower,
                x.written(line, stands, at, 0), x.written(line, stands, at, 1));
    }

    private static KingsInches withWays(int heap, int favour, int tenths) {
        KingsInches x = new KingsInches();
        x.way(1, heap);
        x.way(2, favour);
        x.way(3, tenths);
        return x;
    }

    private static void written() {
        KingsInches plain = new KingsInches();
        writtenIs(plain, 30, 29, 29, 1, 1);
        writtenIs(plain, 30, 29, 30, 0, 1);
        writtenIs(plain, 30, 29, 28, 0, 1);
        KingsInches x = withWays(6, 2, 5);
        writtenIs(x, 28, 27, 28, 4, 5);
        writtenIs(x, 28, 27, 27, 1, 5);
        writtenIs(x, 28, 27, 24, 0, 1);
        writtenIs(x, 28, 26, 28, 1, 2);
        writtenIs(x, 28, 26, 24, 3, 10);
        writtenIs(x, 28, 26, 26, 1, 5);
        writtenIs(x, 28, 25, 28, 0, 1);
        writtenIs(x, 28, 25, 24, 3, 5);
        writtenIs(x, 28, 25, 25, 2, 5);
        writtenIs(x, 28, 28, 28, 1, 1);
        writtenIs(x, 28, 29, 28, 3, 5);
        writtenIs(x, 28, 31, 32, 3, 5);
        writtenIs(x, 30, 28, 30, 1, 2);
        writtenIs(x, 30, 28, 28, 1, 2);
        writtenIs(x, 0, 63, 63, 1, 1);
        writtenIs(x, 0, 62, 60, 3, 5);
        writtenIs(x, 0, 1, 0, 3, 5);
        writtenIs(x, 63, 62, 63, 1, 2);
        writtenIs(x, 63, 62, 60, 3, 10);
    }

    private static void writtenEdges() {
        KingsInches none = withWays(0, 0, 10);
        writtenIs(none, 28, 27, 28, 0, 1);
        KingsInches all = withWays(9, 4, 10);
        writtenIs(all, 29, 25, 29, 1, 1);
        writtenIs(all, 29, 25, 24, 0, 1);
        writtenIs(all, 29, 24, 29, 0, 1);
        writtenIs(all, 29, 24, 24, 1, 1);
        writtenIs(all, 29, 29, 28, 9, 10);
        int[][] wrong = {{-1, 0, 0, 0}, {64, 0, 0, 0}, {0, -1, 0, 0}, {0, 64, 0, 0},
            {0, 0, -1, 0}, {0, 0, 64, 0}, {0, 0, 0, -1}, {0, 0, 0, 2}};
        for (int[] w : wrong) {
            DUE.due("written, a number outside", LOST_OUTSIDE, all.written(w[0], w[1], w[2], w[3]));
        }
    }

    private static void backIs(KingsInches x, int at, int stands, long upper, long lower) {
        DUE.due("back at " + at + " stands " + stands, upper, lower,
                x.back(10, 1, 0, at, stands, 0), x.back(10, 1, 0, at, stands, 1));
    }

    private static void back() {
        KingsInches x = withWays(5, 0, 0);
        backIs(x, 8, 9, 1, 3);
        backIs(x, 8, 10, 2, 3);
        backIs(x, 8, 8, 0, 1);
        backIs(x, 12, 11, 1, 1);
        backIs(x, 9, 9, 1, 1);
        backIs(x, 9, 10, 0, 1);
        backIs(x, 20, 20, 0, 1);
        DUE.due("back, from HEIGHT 0 too", 1, 5, x.back(0, 1, 0, 0, 1, 0), x.back(0, 1, 0, 0, 1, 1));
        DUE.due("back, from HEIGHT 63 too", 1, 1, x.back(63, 1, 0, 63, 63, 0), x.back(63, 1, 0, 63, 63, 1));
        KingsInches y = withWays(0, 1, 10);
        DUE.due("back, favoured", 1, 3, y.back(10, 1, 10, 10, 9, 0), y.back(10, 1, 10, 10, 9, 1));
        DUE.due("back, not favoured", 2, 3, y.back(10, 1, 10, 10, 10, 0), y.back(10, 1, 10, 10, 10, 1));
        DUE.due("back, all have gone", 0, 1, y.back(10, 1, 10, 9, 9, 0), y.back(10, 1, 10, 9, 9, 1));
        int[][] wrong = {{-1, 1, 0, 0, 0, 0}, {64, 1, 0, 0, 0, 0}, {0, 0, 0, 0, 0, 0}, {0, 9, 0, 0, 0, 0},
            {0, 1, -1, 0, 0, 0}, {0, 1, 64, 0, 0, 0}, {0, 1, 0, -1, 0, 0}, {0, 1, 0, 64, 0, 0},
            {0, 1, 0, 0, -1, 0}, {0, 1, 0, 0, 64, 0}, {0, 1, 0, 0, 0, -1}, {0, 1, 0, 0, 0, 2}};
        for (int[] w : wrong) {
            DUE.due("back, a number outside", LOST_OUTSIDE, x.back(w[0], w[1], w[2], w[3], w[4], w[5]));
        }
    }

    private static void pile() {
        KingsInches x = new KingsInches();
        DUE.due("pile of nobody", 0, 1, x.pile(0, 0), x.pile(0, 1));
        x.men(0, 63, 3);
        DUE.due("pile, none at whole inches", 0, 1, x.pile(0, 0), x.pile(0, 1));
        x.men(0, 0, 1);
        x.men(0, 60, 2);
        DUE.due("pile, half", 2, 1, x.pile(0, 0), x.pile(0, 1));
        x.men(0, 62, 1);
        DUE.due("pile, 3 of 7", 12, 7, x.pile(0, 0), x.pile(0, 1));
        DUE.due("pile(6, 2)", LOST_UNKNOWN, x.pile(6, 2));
        DUE.due("pile(-1, 0)", LOST_UNKNOWN, x.pile(-1, 0));
        DUE.due("pile(0, 2)", LOST_OUTSIDE, x.pile(0, 2));
        DUE.due("pile(0, -1)", LOST_OUTSIDE, x.pile(0, -1));
    }

    private static void grownIs(KingsInches x, int age, int lied, long sum, long upper, long lower) {
        x.set(4, 1, age);
        x.way(4, lied);
        DUE.due("grown by what is said, AGE " + age, sum, 1, x.grown(4, 0, 0), x.grown(4, 0, 1));
        DUE.due("grown, mean, AGE " + age + " LIED " + lied, upper, lower, x.grown(4, 1, 0), x.grown(4, 1, 1));
    }

    private static void grown() {
        KingsInches x = new KingsInches();
        Due.take(x, 1, "22:2;13:5;14:1;23:7;14:9;40:3");
        grownIs(x, 14, 0, 3, 3, 1);
        grownIs(x, 14, 5, 3, 11, 2);
        grownIs(x, 14, 10, 3, 8, 1);
        grownIs(x, 15, 1, 2, 21, 10);
        grownIs(x, 22, 10, 2, 2, 1);
        grownIs(x, 23, 0, 0, 0, 1);
        grownIs(x, 23, 10, 0, 2, 1);
        grownIs(x, 24, 10, 0, 0, 1);
        grownIs(x, 40, 10, 0, 0, 1);
        DUE.due("grown(6, 2, 2)", LOST_UNKNOWN, x.grown(6, 2, 2));
        DUE.due("grown(-1, 0, 0)", LOST_UNKNOWN, x.grown(-1, 0, 0));
        DUE.due("grown(0, 2, 0)", LOST_OUTSIDE, x.grown(0, 2, 0));
        DUE.due("grown(0, -1, 0)", LOST_OUTSIDE, x.grown(0, -1, 0));
        DUE.due("grown(0, 0, 2)", LOST_OUTSIDE, x.grown(0, 0, 2));
        DUE.due("grown(0, 0, -1)", LOST_OUTSIDE, x.grown(0, 0, -1));
    }

    private static void right() {
        KingsInches x = new KingsInches();
        x.men(4, 10, 4);
        x.set(4, 1, 14);
        DUE.due("right, no GROWTH", 10, 1, x.right(4, 1, 0), x.right(4, 1, 1));
        Due.take(x, 1, "13:5;14:1;22:2");
        DUE.due("right, GROWTH", 13, 1, x.right(4, 1, 0), x.right(4, 1, 1));
        x.way(4, 5);
        DUE.due("right, LIED", 31, 2, x.right(4, 1, 0), x.right(4, 1, 1));
        Due.take(x, 0, "*:10");
        DUE.due("right, by its LINE", 29, 2, x.right(4, 1, 0), x.right(4, 1, 1));
        DUE.due("right of nobody", 0, 1, new KingsInches().right(0, 1, 0), new KingsInches().right(0, 1, 1));
        DUE.due("right(6, 0, 2)", LOST_UNKNOWN, x.right(6, 0, 2));
        DUE.due("right(0, 0, 0)", LOST_OUTSIDE, x.right(0, 0, 0));
        DUE.due("right(0, 9, 0)", LOST_OUTSIDE, x.right(0, 9, 0));
        DUE.due("right(0, 1, 2)", LOST_OUTSIDE, x.right(0, 1, 2));
        DUE.due("right(0, 1, -1)", LOST_OUTSIDE, x.right(0, 1, -1));
    }
}
