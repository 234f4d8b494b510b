/** Promises 29 to 34: worlds from a seed, images, what is told. */
public final class WorldsTest {
    private static final Due DUE = new Due();

    public static void main(String[] args) {
        make();
        makeByLine();
        makeOutside();
        off();
        best();
        imageAndRestore();
        imagesAreTheirOwn();
        told();
        DUE.end();
    }

    /** DRAWS of seed 0: 74, 5624, 28652, 51790, 17641, 12409, 13231, ... */
    private static KingsInches with(int leak, int heap, int favour, int tenths, String rule) {
        KingsInches x = new KingsInches();
        x.way(0, leak);
        x.way(1, heap);
        x.way(2, favour);
        x.way(3, tenths);
        Due.take(x, 0, rule);
        return x;
    }

    /** Heights and MEN in turn; nobody else is in the BOOK. */
    private static void madeIs(KingsInches x, int m, int n, int... heightsAndMen) {
        int all = 0;
        for (int i = 1; i < heightsAndMen.length; i += 2) {
            all += heightsAndMen[i];
        }
        DUE.due("make(2, 0, " + m + ", 1, " + n + ")", all, x.make(2, 0, m, 1, n));
        DUE.due("MEN of that BOOK", all, x.told(12));
        for (int i = 0; i < heightsAndMen.length; i += 2) {
            DUE.due("MEN of " + heightsAndMen[i], heightsAndMen[i + 1], Due.menAt(x, 2, heightsAndMen[i]));
        }
    }

    private static void make() {
        madeIs(with(0, 0, 0, 0, ""), 28, 2, 28, 1, 27, 1);
        madeIs(with(0, 2, 0, 0, ""), 28, 2, 28, 1, 27, 1);
        madeIs(with(0, 3, 0, 0, ""), 28, 2, 28, 2);
        madeIs(with(0, 0, 0, 0, ""), 30, 3, 30, 2, 29, 1);
        madeIs(with(0, 5, 0, 0, ""), 30, 3, 28, 2, 30, 1);
        madeIs(with(0, 0, 0, 0, ""), 0, 2, 0, 1);
        madeIs(with(0, 5, 0, 0, ""), 63, 2, 63, 1, 60, 1);
        KingsInches x = new KingsInches();
        x.men(2, 5, 999);
        x.men(1, 5, 999);
        madeIs(x, 28, 2, 28, 1, 27, 1, 5, 0);
        DUE.due("another BOOK stays", 999, x.told(11));
        DUE.due("WIDTH 8, 200 men", 200, x.make(0, 9999, 30, 8, 200));
        DUE.due("the same seed again", 200, x.make(1, 9999, 30, 8, 200));
        DUE.due("makes the same world", x.mean(0, 0), x.mean(1, 0));
    }

    private static void makeByLine() {
        madeIs(with(0, 0, 0, 0, "*:30"), 30, 3, 30, 2);
        madeIs(with(1, 0, 0, 0, "*:30"), 30, 3, 30, 2, 29, 1);
        madeIs(with(0, 0, 1, 1, "*:30"), 30, 3, 30, 3);
        madeIs(with(0, 0, 1, 0, "*:30"), 30, 3, 30, 2);
        madeIs(with(2, 0, 1, 0, "*:30"), 30, 3, 30, 1, 29, 1, 31, 1);
        madeIs(with(1, 0, 1, 10, "*:31"), 30, 1, 31, 1);
        // Two below: too far for FAVOUR 1, so that no DRAW is made for it.
        madeIs(with(1, 0, 1, 10, "*:32"), 30, 1);
        madeIs(with(5, 0, 1, 10, "*:32"), 30, 1, 30, 1);
        KingsInches lot = with(0, 0, 0, 0, "*:30");
        lot.set(2, 2, 1);
        madeIs(lot, 30, 3, 30, 2, 29, 1);
    }

    private static void makeOutside() {
        KingsInches x = new KingsInches();
        x.men(0, 7, 3);
        int[][] wrong = {{-1, 0, 1, 1}, {10000, 0, 1, 1}, {0, -1, 1, 1}, {0, 64, 1, 1}, {0, 0, 0, 1},
            {0, 0, 9, 1}, {0, 0, 1, 0}, {0, 0, 1, 201}};
        for (int[] w : wrong) {
            DUE.due("make, a number outside", -2, x.make(0, w[0], w[1], w[2], w[3]));
            DUE.due("off, a number outside", -2, x.off(0, w[0], w[1], w[2], w[3], 1, 0));
            DUE.due("best, a number outside", -2, x.best(0, w[0], w[1], w[2], w[3], 1));
            DUE.due("make, no such BOOK", -1, x.make(6, w[0], w[1], w[2], w[3]));
            DUE.due("off, no such BOOK", -1, x.off(-1, w[0], w[1], w[2], w[3], 0, 4));
            DUE.due("best, no such BOOK", -1, x.best(6, w[0], w[1], w[2], w[3], 9));
        }
        DUE.due("off, worlds 0", -2, x.off(0, 0, 0, 1, 1, 0, 0));
        DUE.due("off, worlds 9", -2, x.off(0, 0, 0, 1, 1, 9, 0));
        DUE.due("off, rule -1", -2, x.off(0, 0, 0, 1, 1, 1, -1));
        DUE.due("off, rule 4", -2, x.off(0, 0, 0, 1, 1, 1, 4));
        DUE.due("best, worlds 0", -2, x.best(0, 0, 0, 1, 1, 0));
        DUE.due("best, worlds 9", -2, x.best(0, 0, 0, 1, 1, 9));
        DUE.due("refused: MEN stay", 3, x.men(0, 7, 3));
    }

    private static void off() {
        KingsInches x = new KingsInches();
        x.men(0, 7, 3);
        // The world of seed 0: two men of 30, one of 29. MEAN 29, MODE 30, FIT 29.
        DUE.due("off, MEAN cut", 1, x.off(0, 0, 30, 1, 3, 1, 0));
        DUE.due("off, MODE", 0, x.off(0, 0, 30, 1, 3, 1, 1));
        DUE.due("off, FIT", 1, x.off(0, 0, 30, 1, 3, 1, 2));
        DUE.due("the BOOK is as it was", 3, x.told(10));
        DUE.due("its MEN are as they were", 3, x.men(0, 7, 3));
        int sum = 0;
        for (int seed = 9998; seed <= 9999; seed++) {
            x.make(1, seed, 20, 3, 40);
            sum += Math.abs(x.mode(1) - 20);
        }
        DUE.due("off, worlds of two seeds", sum, x.off(1, 9998, 20, 3, 40, 2, 1));
        x.make(1, 77, 20, 3, 40);
        DUE.due("off, FOUND", Math.abs(x.found(1, 3, 1) - 20), x.off(1, 77, 20, 3, 40, 1, 3));
        x.make(1, 77, 20, 3, 40);
        DUE.due("off, FIT", Math.abs(x.fit(1, 3, 0) - 20), x.off(1, 77, 20, 3, 40, 1, 2));
        Due.take(x, 0, "*:63");
        for (int rule = 0; rule < 4; rule++) {
            DUE.due("off, worlds without MEN", 504, x.off(0, 9999, 20, 1, 3, 8, rule));
        }
        x.set(0, 2, 1);
        DUE.due("off, no LINE for KIND 1", 0, x.off(0, 0, 30, 1, 3, 1, 1));
    }

    private static void best() {
        KingsInches x = new KingsInches();
        x.men(0, 7, 3);
        // MODE alone finds the MIDDLE of this world.
        DUE.due("best", 1, x.best(0, 0, 30, 1, 3, 1));
        DUE.due("the BOOK is as it was", 3, x.men(0, 7, 3));
        // One man at his own HEIGHT: MEAN finds it, and is the first.
        DUE.due("best, the first of some", 0, x.best(0, 0, 30, 1, 1, 1));
        Due.take(x, 0, "y=3:32");
        x.set(0, 0, 3);
        int least = 0;
        for (int rule = 1; rule < 4; rule++) {
            least = x.off(0, 40, 31, 4, 90, 5, rule) < x.off(0, 40, 31, 4, 90, 5, least) ? rule : least;
        }
        DUE.due("best by OFF", least, x.best(0, 40, 31, 4, 90, 5));
        DUE.holds("that is one that undoes the LINE", least >= 2);
    }

    private static void imageAndRestore() {
        KingsInches x = with(1, 2, 3, 4, "*:10");
        x.way(4, 5);
        Due.take(x, 1, "14:3;15:1");
        x.men(3, 20, 6);
        x.set(3, 0, 50);
        x.set(3, 1, 14);
        x.set(3, 2, 0);
        Due.say(x, "ab");
        DUE.due("image(1)", 1, x.image(1));
        for (int which = 0; which < 5; which++) {
            x.way(which, 0);
        }
        x.wipe();
        Due.take(x, 0, "*:1;*:2");
        Due.take(x, 1, "9:9;9:9;9:9");
        x.men(3, 20, 0);
        x.men(0, 1, 1);
        x.set(3, 0, 1);
        x.set(3, 1, 30);
        x.set(3, 2, 2);
        Due.say(x, "xyz");
        DUE.due("restore(0)", -3, x.restore(0));
        DUE.due("refused: YEAR", 1, x.told(23));
        DUE.due("restore(1)", 1, x.restore(1));
        DUE.due("signs are not of it", 3, x.told(0));
        DUE.due("CASES", 1, x.told(1));
        DUE.due("ITEMS", 2, x.told(2));
        for (int which = 0; which < 5; which++) {
            DUE.due("way " + which, which + 1, x.told(3 + which));
        }
        DUE.due("MEN of BOOK 0", 0, x.told(10));
        DUE.due("MEN of BOOK 3", 6, x.men(3, 20, 6));
        DUE.due("YEAR", 50, x.told(23));
        DUE.due("AGE", 14, x.told(33));
        DUE.due("KIND", 0, x.told(43));
        DUE.due("LINE", 10, x.line(3));
        DUE.due("GROWN", 4, x.grown(3, 0, 0));
    }

    private static void imagesAreTheirOwn() {
        KingsInches x = new KingsInches();
        x.set(0, 0, 1);
        x.image(0);
        x.set(0, 0, 2);
        x.image(1);
        x.set(0, 0, 3);
        x.restore(0);
        DUE.due("IMAGE 0", 1, x.told(20));
        x.set(0, 0, 4);
        x.men(0, 9, 9);
        x.restore(0);
        DUE.due("IMAGE 0 again", 1, x.told(20));
        DUE.due("IMAGE 0 again, MEN", 0, x.told(10));
        x.restore(1);
        DUE.due("IMAGE 1", 2, x.told(20));
        x.set(0, 0, 5);
        x.image(0);
        x.restore(1);
        x.restore(0);
        DUE.due("IMAGE 0 kept anew", 5, x.told(20));
        DUE.due("image(-1)", -2, x.image(-1));
        DUE.due("image(2)", -2, x.image(2));
        DUE.due("restore(-1)", -2, x.restore(-1));
        DUE.due("restore(2)", -2, x.restore(2));
    }

    private static void told() {
        KingsInches x = new KingsInches();
        for (int book = 0; book < 6; book++) {
            x.men(book, 3, 10 + book);
            x.men(book, 4, 1);
            x.set(book, 0, 20 + book);
            x.set(book, 1, 30 + book);
            x.set(book, 2, book % 3);
        }
        for (int book = 0; book < 6; book++) {
            DUE.due("told MEN", 11 + book, x.told(10 + book));
            DUE.due("told YEAR", 20 + book, x.told(20 + book));
            DUE.due("told AGE", 30 + book, x.told(30 + book));
            DUE.due("told KIND", book % 3, x.told(40 + book));
        }
        int[] outside = {-1, 8, 9, 16, 19, 26, 29, 36, 39, 46, 49, 50, 110, -10, Integer.MIN_VALUE,
            Integer.MAX_VALUE};
        for (int what : outside) {
            DUE.due("told(" + what + ")", -2, x.told(what));
        }
    }
}
