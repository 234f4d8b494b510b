/** Promises 10 to 15: humps and what is undone by told grids. */
public final class HumpsTest {
    private static final Due DUE = new Due();
    private static final long LOST_OUTSIDE = KingsInches.LOST - 2;

    public static void main(String[] args) {
        hump();
        upper();
        misfit();
        fit();
        span();
        found();
        DUE.end();
    }

    private static void hump() {
        KingsInches x = new KingsInches();
        int[] row = {0, 1, 2, 1, 0};
        for (int i = 0; i < 5; i++) {
            DUE.due("hump(10, 1, " + (8 + i) + ")", row[i], x.hump(10, 1, 8 + i));
        }
        int[] four = {1, 8, 28, 56, 70, 56, 28, 8, 1};
        for (int i = 0; i < 9; i++) {
            DUE.due("hump(4, 4, " + i + ")", four[i], x.hump(4, 4, i));
        }
        DUE.due("hump(30, 8, 30)", 12870, x.hump(30, 8, 30));
        DUE.due("hump(30, 8, 22)", 1, x.hump(30, 8, 22));
        DUE.due("hump(30, 8, 21)", 0, x.hump(30, 8, 21));
        DUE.due("hump(30, 8, 39)", 0, x.hump(30, 8, 39));
        for (int w = 1; w <= 8; w++) {
            long all = 0;
            for (int h = 20; h <= 40; h++) {
                all += x.hump(30, w, h);
            }
            DUE.due("all of a HUMP of WIDTH " + w, 1L << 2 * w, all);
        }
        DUE.due("hump(0, 1, 0)", 2, x.hump(0, 1, 0));
        DUE.due("hump(63, 1, 63)", 2, x.hump(63, 1, 63));
        DUE.due("hump(63, 1, 62)", 1, x.hump(63, 1, 62));
        DUE.due("hump(-1, 1, 0)", -2, x.hump(-1, 1, 0));
        DUE.due("hump(64, 1, 63)", -2, x.hump(64, 1, 63));
        DUE.due("hump(0, 0, 0)", -2, x.hump(0, 0, 0));
        DUE.due("hump(0, 9, 0)", -2, x.hump(0, 9, 0));
        DUE.due("hump(0, 1, -1)", -2, x.hump(0, 1, -1));
        DUE.due("hump(63, 1, 64)", -2, x.hump(63, 1, 64));
        DUE.due("hump(MIN, MAX, MIN)", -2,
                x.hump(Integer.MIN_VALUE, Integer.MAX_VALUE, Integer.MIN_VALUE));
    }

    private static void upperIs(int m, int w, int line, int what, long upper, long lower) {
        KingsInches x = new KingsInches();
        DUE.due("upper(" + m + ", " + w + ", " + line + ", " + what + ")", upper, lower,
                x.upper(m, w, line, what, 0), x.upper(m, w, line, what, 1));
    }

    private static void upper() {
        upperIs(0, 1, 0, 0, 1, 1);
        upperIs(0, 1, 1, 0, 1, 3);
        upperIs(0, 1, 2, 0, 0, 1);
        upperIs(0, 1, 0, 1, 1, 3);
        upperIs(0, 1, 2, 1, 0, 1);
        upperIs(63, 1, 63, 0, 2, 3);
        upperIs(63, 1, 62, 1, 188, 3);
        upperIs(63, 1, 63, 1, 63, 1);
        upperIs(10, 1, 10, 0, 3, 4);
        upperIs(10, 1, 11, 1, 11, 1);
        upperIs(10, 1, 12, 0, 0, 1);
        upperIs(10, 1, 12, 1, 0, 1);
        upperIs(10, 1, 63, 0, 0, 1);
        upperIs(40, 8, 0, 0, 1, 1);
        upperIs(40, 8, 48, 0, 1, 65536);
        upperIs(40, 8, 0, 1, 40, 1);
        KingsInches x = new KingsInches();
        DUE.due("upper(64, ..)", LOST_OUTSIDE, x.upper(64, 1, 0, 0, 0));
        DUE.due("upper(-1, ..)", LOST_OUTSIDE, x.upper(-1, 1, 0, 0, 0));
        DUE.due("upper w 0", LOST_OUTSIDE, x.upper(0, 0, 0, 0, 0));
        DUE.due("upper w 9", LOST_OUTSIDE, x.upper(0, 9, 0, 0, 0));
        DUE.due("upper line -1", LOST_OUTSIDE, x.upper(0, 1, -1, 0, 0));
        DUE.due("upper line 64", LOST_OUTSIDE, x.upper(0, 1, 64, 0, 0));
        DUE.due("upper what 2", LOST_OUTSIDE, x.upper(0, 1, 0, 2, 0));
        DUE.due("upper what -1", LOST_OUTSIDE, x.upper(0, 1, 0, -1, 0));
        DUE.due("upper part 2", LOST_OUTSIDE, x.upper(0, 1, 0, 0, 2));
        DUE.due("upper part -1", LOST_OUTSIDE, x.upper(0, 1, 0, 0, -1));
    }

    /** Four men of HEIGHT 10 in BOOK 0, all else empty. */
    private static KingsInches fourMen() {
        KingsInches x = new KingsInches();
        x.men(0, 10, 4);
        return x;
    }

    private static void misfit() {
        KingsInches x = fourMen();
        DUE.due("misfit, its HUMP", 4, x.misfit(0, 10, 1, 0));
        DUE.due("misfit, beside", 8, x.misfit(0, 20, 1, 0));
        DUE.due("misfit, a part of the HUMP outside", 7, x.misfit(0, 0, 1, 0));
        DUE.due("misfit, line at the lower end", 4, x.misfit(0, 10, 1, 9));
        DUE.due("misfit, line in the middle", 3, x.misfit(0, 10, 1, 10));
        DUE.due("misfit, line at the upper end", 8, x.misfit(0, 10, 1, 11));
        DUE.due("misfit, line above", -5, x.misfit(0, 10, 1, 12));
        DUE.due("misfit, line found", 0, x.misfit(0, 9, 1, 10));
        DUE.due("misfit of nobody", 0, x.misfit(1, 10, 1, 10));
        DUE.due("misfit of nobody, line above", -5, x.misfit(1, 10, 1, 12));
        x.way(0, 5);
        DUE.due("misfit with LEAK", 4, x.misfit(0, 10, 1, 11));
        DUE.due("misfit with LEAK, line above", 4, x.misfit(0, 10, 1, 12));
        DUE.due("misfit(6, ..)", -1, x.misfit(6, 64, 1, 0));
        DUE.due("misfit(-1, ..)", -1, x.misfit(-1, 0, 1, 0));
        DUE.due("misfit m 64", -2, x.misfit(0, 64, 1, 0));
        DUE.due("misfit m -1", -2, x.misfit(0, -1, 1, 0));
        DUE.due("misfit w 0", -2, x.misfit(0, 0, 0, 0));
        DUE.due("misfit w 9", -2, x.misfit(0, 0, 9, 0));
        DUE.due("misfit line 64", -2, x.misfit(0, 0, 1, 64));
        DUE.due("misfit line -1", -2, x.misfit(0, 0, 1, -1));
        // 64 times 999 men: what is EXPECTED goes beyond an int on its way.
        KingsInches full = new KingsInches();
        for (int h = 0; h < 64; h++) {
            full.men(0, h, 999);
        }
        long sum = 0;
        for (int h = 0; h < 64; h++) {
            sum += Math.abs(999 - 63936L * full.hump(30, 8, h) / 65536);
        }
        DUE.due("misfit of a full BOOK", sum, full.misfit(0, 30, 8, 0));
    }

    private static void fit() {
        KingsInches x = fourMen();
        DUE.due("fit", 10, x.fit(0, 1, 0));
        DUE.due("its MISFIT", 4, x.fit(0, 1, 1));
        x.men(0, 10, 2);
        x.men(0, 11, 2);
        DUE.due("of two as good the first", 10, x.fit(0, 1, 0));
        DUE.due("its MISFIT then", 2, x.fit(0, 1, 1));
        DUE.due("fit of nobody", 0, x.fit(1, 1, 0));
        Due.take(x, 0, "*:63");
        DUE.due("fit where most have no MISFIT", 62, x.fit(1, 1, 0));
        DUE.due("WIDTH 8 reaches the line from 55 on", 55, x.fit(1, 8, 0));
        x.set(1, 2, 1);
        DUE.due("no line for KIND 1", 0, x.fit(1, 1, 0));
        x.set(1, 2, 0);
        x.way(0, 1);
        DUE.due("with LEAK all have one", 0, x.fit(1, 1, 0));
        DUE.due("fit(6, 0, 2)", -1, x.fit(6, 0, 2));
        DUE.due("fit(-1, 1, 0)", -1, x.fit(-1, 1, 0));
        DUE.due("fit w 0", -2, x.fit(0, 0, 0));
        DUE.due("fit w 9", -2, x.fit(0, 9, 0));
        DUE.due("fit what 2", -2, x.fit(0, 1, 2));
        DUE.due("fit what -1", -2, x.fit(0, 1, -1));
    }

    private static void spanIs(KingsInches x, int slack, int least, int greatest) {
        DUE.due("span, slack " + slack, least, greatest, x.span(0, 1, slack, 0), x.span(0, 1, slack, 1));
    }

    private static void span() {
        KingsInches x = fourMen();
        spanIs(x, 0, 10, 10);
        spanIs(x, 1, 10, 10);
        spanIs(x, 2, 9, 11);
        spanIs(x, 3, 0, 63);
        spanIs(x, 999, 0, 63);
        Due.take(x, 0, "*:10");
        spanIs(x, 0, 9, 9);
        spanIs(x, 3, 9, 10);
        spanIs(x, 7, 9, 63);
        spanIs(x, 999, 9, 63);
        DUE.due("span(6, ..)", -1, x.span(6, 0, -1, 2));
        DUE.due("span(-1, ..)", -1, x.span(-1, 1, 0, 0));
        DUE.due("span w 0", -2, x.span(0, 0, 0, 0));
        DUE.due("span w 9", -2, x.span(0, 9, 0, 0));
        DUE.due("span slack -1", -2, x.span(0, 1, -1, 0));
        DUE.due("span slack 1000", -2, x.span(0, 1, 1000, 0));
        DUE.due("span end 2", -2, x.span(0, 1, 0, 2));
        DUE.due("span end -1", -2, x.span(0, 1, 0, -1));
    }

    private static void foundIs(KingsInches x, int book, int w, int line, int middle, int misfit) {
        DUE.due("found line", line, x.found(book, w, 0));
        DUE.due("found MIDDLE", middle, x.found(book, w, 1));
        DUE.due("found MISFIT", misfit, x.found(book, w, 2));
    }

    private static void found() {
        KingsInches x = fourMen();
        foundIs(x, 0, 1, 10, 9, 0);
        foundIs(x, 1, 1, 0, 0, 0);
        Due.take(x, 0, "*:40");
        foundIs(x, 0, 1, 10, 9, 0);
        x.men(2, 63, 5);
        foundIs(x, 2, 3, 63, 60, 0);
        x.men(3, 0, 2);
        x.men(3, 1, 1);
        foundIs(x, 3, 1, 0, 0, 0);
        x.men(4, 1, 3);
        foundIs(x, 4, 1, 1, 0, 0);
        DUE.due("found(6, ..)", -1, x.found(6, 0, 3));
        DUE.due("found(-1, ..)", -1, x.found(-1, 1, 0));
        DUE.due("found w 0", -2, x.found(0, 0, 0));
        DUE.due("found w 9", -2, x.found(0, 9, 0));
        DUE.due("found what 3", -2, x.found(0, 1, 3));
        DUE.due("found what -1", -2, x.found(0, 1, -1));
        // Parts 9, 20 and 10 of 39: EXPECTED 0, 2 and 1.
        x.way(0, 9);
        foundIs(x, 0, 1, 10, 10, 3);
    }
}
