/**
 * Terms, part 5, and promises 29 to 34: each sentence that names a boundary case, by itself.
 * DRAWS of seed 0: 74, 5624, 28652, 51790, 17641; left over by 4: 2, 0, 0, 2, 1; by 10: 4, 4, 2, 0, 1.
 */
public final class EdgesOfWorldsTest {
    private static final Due DUE = new Due();

    public static void main(String[] args) {
        seedsAndDraws();
        numbersAmongTheHump();
        numbersOfTheWidestHump();
        whoIsOutside();
        menGo();
        oneTo200();
        notBelowTheLine();
        leakDraw();
        favourDraw();
        noFartherBelow();
        notTakenNoHeap();
        favouredNoHeap();
        heapDraw();
        heapAtTheTop();
        makeByKind();
        offOfSomeWorlds();
        offBeyondTheLastSeed();
        offIsFar();
        offByTheLineOfTheBook();
        offLeavesTheBook();
        bestIsTheFirst();
        imageOfNothing();
        allButSigns();
        imagesAreTwo();
        imageKeptAgain();
        restoreKeepsTheImage();
        toldOfTexts();
        toldOfBooks();
        toldBetween();
        DUE.end();
    }

    private static KingsInches with(int leak, int heap, int favour, int tenths, String rule) {
        KingsInches x = Due.withRule(rule);
        x.way(0, leak);
        x.way(1, heap);
        x.way(2, favour);
        x.way(3, tenths);
        return x;
    }

    /** HEIGHTS and MEN in turn; nobody else is in the BOOK. */
    private static void bookIs(KingsInches x, int taken, int... heightsAndMen) {
        int all = 0;
        for (int i = 0; i < heightsAndMen.length; i += 2) {
            all += heightsAndMen[i + 1];
            DUE.due("MEN of " + heightsAndMen[i], heightsAndMen[i + 1], Due.menAt(x, 0, heightsAndMen[i]));
        }
        DUE.due("taken", all, taken);
        DUE.due("told(10)", all, x.told(10));
    }

    static void seedsAndDraws() {
        DUE.sentence("Terms 5: a seed (0 to 9999); the seed becomes itself times 75 and 74, left over by 65537");
        KingsInches x = new KingsInches();
        bookIs(x, x.make(0, 0, 28, 1, 1), 28, 1);
        bookIs(x, x.make(0, 2, 28, 1, 1), 27, 1);
        bookIs(x, x.make(0, 3, 28, 1, 1), 29, 1);
        bookIs(x, x.make(0, 872, 28, 1, 1), 28, 1);
        bookIs(x, x.make(0, 873, 28, 1, 1), 27, 1);
        bookIs(x, x.make(0, 9999, 28, 1, 1), 27, 1);
        DUE.due("seed 10000", KingsInches.OUTSIDE, x.make(0, 10000, 28, 1, 1));
        DUE.due("seed -1", KingsInches.OUTSIDE, x.make(0, -1, 28, 1, 1));
        DUE.due("the BOOK stays", 1, Due.menAt(x, 0, 27));
    }

    /** Seeds whose first DRAW left over by 16 is 0, 1, 4, 5, 10, 11, 14, 15: the first and last of each HEIGHT. */
    static void numbersAmongTheHump() {
        DUE.sentence("Terms 5: a DRAW left over by 4 to the power w is his number, the least HEIGHTS first");
        int[] seeds = {2, 5, 14, 1, 0, 3, 12, 15};
        int[] heights = {28, 29, 29, 30, 30, 31, 31, 32};
        KingsInches x = new KingsInches();
        for (int i = 0; i < seeds.length; i++) {
            bookIs(x, x.make(0, seeds[i], 30, 2, 1), heights[i], 1);
        }
    }

    /** First DRAWS 2516, 64838, 65399; the third ones of seeds 3160 and 6321, the second men's: 65535, 65534. */
    static void numbersOfTheWidestHump() {
        DUE.sentence("Terms 5: his number among the HUMP's men, of WIDTH 8");
        KingsInches x = new KingsInches();
        bookIs(x, x.make(0, 7897, 32, 8, 1), 28, 1);
        bookIs(x, x.make(0, 3485, 32, 8, 1), 36, 1);
        bookIs(x, x.make(0, 871, 32, 8, 1), 38, 1);
        bookIs(x, x.make(0, 3160, 32, 8, 2), 33, 1, 40, 1);
        bookIs(x, x.make(0, 6321, 32, 8, 2), 31, 1, 39, 1);
    }

    static void whoIsOutside() {
        DUE.sentence("Terms 5: who is outside is passed over");
        KingsInches x = new KingsInches();
        bookIs(x, x.make(0, 2, 0, 1, 1));
        bookIs(x, x.make(0, 3, 0, 1, 1), 1, 1);
        bookIs(x, x.make(0, 3, 63, 1, 1));
        bookIs(x, x.make(0, 2, 63, 1, 1), 62, 1);
        DUE.sentence("Terms 5: DRAWS are made just where they are told: none more for who is outside");
        KingsInches low = with(9, 0, 0, 0, "*:5");
        bookIs(low, low.make(0, 2, 0, 1, 3), 0, 2);
        bookIs(x, x.make(0, 3, 63, 1, 3), 63, 1);
    }

    static void menGo() {
        DUE.sentence("Terms 5: MADE in a BOOK: its MEN go");
        KingsInches x = Due.withFullBook(0);
        x.men(1, 5, 999);
        DUE.due("made", 1, x.make(0, 0, 28, 1, 1));
        bookIs(x, 1, 28, 1);
        DUE.due("another BOOK stays", 999, x.told(11));
        Due.take(x, 0, "*:63");
        DUE.due("nobody is taken", 0, x.make(1, 0, 28, 1, 200));
        DUE.due("they go all the same", 0, x.told(11));
        DUE.due("mode", KingsInches.NONE, x.mode(1));
    }

    static void oneTo200() {
        DUE.sentence("Terms 5: n times (1 to 200)");
        KingsInches x = new KingsInches();
        DUE.due("n 0", KingsInches.OUTSIDE, x.make(0, 0, 30, 8, 0));
        DUE.due("n 1", 1, x.make(0, 0, 30, 8, 1));
        DUE.due("n 200", 200, x.make(0, 0, 30, 8, 200));
        DUE.due("n 201", KingsInches.OUTSIDE, x.make(0, 0, 30, 8, 201));
        DUE.due("the BOOK stays", 200, x.told(10));
        DUE.due("n 199", 199, x.make(0, 9999, 30, 1, 199));
    }

    private static void madeIs(KingsInches x, int m, int n, int... heightsAndMen) {
        bookIs(x, x.make(0, 0, m, 1, n), heightsAndMen);
    }

    static void notBelowTheLine() {
        DUE.sentence("Terms 5: if he stands below the LINE of the BOOK");
        madeIs(with(0, 4, 4, 10, "*:30"), 30, 1, 30, 1);
        madeIs(with(0, 5, 4, 10, "*:30"), 30, 1, 28, 1);
        madeIs(with(0, 0, 4, 10, "*:31"), 30, 1, 31, 1);
        madeIs(with(0, 0, 4, 10, "*:29"), 30, 1, 30, 1);
    }

    static void leakDraw() {
        DUE.sentence("Terms 5: else a DRAW left over by 10 not less than LEAK: not taken");
        madeIs(with(0, 0, 0, 0, "*:31"), 30, 1);
        madeIs(with(4, 0, 0, 0, "*:31"), 30, 1);
        madeIs(with(5, 0, 0, 0, "*:31"), 30, 1, 30, 1);
        madeIs(with(9, 0, 0, 0, "*:31"), 30, 1, 30, 1);
    }

    static void favourDraw() {
        DUE.sentence("Terms 5: a DRAW left over by 10 less than FAVOUR's tenths: written at the line");
        madeIs(with(0, 0, 1, 0, "*:31"), 30, 1);
        madeIs(with(0, 0, 1, 4, "*:31"), 30, 1);
        madeIs(with(0, 0, 1, 5, "*:31"), 30, 1, 31, 1);
        madeIs(with(0, 0, 1, 10, "*:31"), 30, 1, 31, 1);
        DUE.sentence("Terms 5: else a DRAW for LEAK, another one");
        madeIs(with(2, 0, 1, 4, "*:31"), 30, 1);
        madeIs(with(3, 0, 1, 4, "*:31"), 30, 1, 30, 1);
        madeIs(with(3, 1, 1, 4, "*:31"), 30, 1, 28, 1);
    }

    static void noFartherBelow() {
        DUE.sentence("Terms 5: and he is no farther below than FAVOUR");
        for (int favour = 1; favour <= 4; favour++) {
            String[] lines = {"*:30", "*:31", "*:32", "*:33", "*:34", "*:35"};
            madeIs(with(0, 0, favour, 10, lines[favour]), 30, 1, 30 + favour, 1);
            madeIs(with(0, 0, favour, 10, lines[favour + 1]), 30, 1);
        }
        DUE.sentence("Terms 5: a DRAW of FAVOUR only if he is no farther below");
        madeIs(with(4, 0, 1, 10, "*:32"), 30, 1);
        madeIs(with(5, 0, 1, 10, "*:32"), 30, 1, 30, 1);
        madeIs(with(4, 0, 0, 10, "*:31"), 30, 1);
        madeIs(with(5, 0, 0, 10, "*:31"), 30, 1, 30, 1);
    }

    static void notTakenNoHeap() {
        DUE.sentence("Terms 5: DRAWS are made just where they are told: none of HEAP for who is not taken");
        madeIs(with(1, 1, 0, 0, "*:31"), 30, 2, 29, 1);
        madeIs(with(1, 2, 0, 0, "*:31"), 30, 2, 28, 1);
    }

    static void favouredNoHeap() {
        DUE.sentence("Terms 5: then (not favoured), if at no whole inch");
        madeIs(with(0, 9, 1, 5, "*:31"), 30, 1, 31, 1);
        madeIs(with(1, 1, 1, 5, "*:31"), 30, 2, 31, 1, 29, 1);
        madeIs(with(1, 2, 1, 5, "*:31"), 30, 2, 31, 1, 28, 1);
    }

    static void heapDraw() {
        DUE.sentence("Terms 5: a DRAW left over by 10 less than HEAP: written at the nearest one");
        madeIs(with(0, 0, 0, 0, ""), 30, 1, 30, 1);
        madeIs(with(0, 4, 0, 0, ""), 30, 1, 30, 1);
        madeIs(with(0, 5, 0, 0, ""), 30, 1, 28, 1);
        madeIs(with(0, 9, 0, 0, ""), 31, 1, 32, 1);
        madeIs(with(5, 2, 0, 0, "*:31"), 30, 1, 30, 1);
        madeIs(with(5, 3, 0, 0, "*:31"), 30, 1, 28, 1);
        DUE.sentence("Terms 5: if at no whole inch: no DRAW for who stands at one");
        madeIs(with(0, 2, 0, 0, ""), 28, 2, 28, 1, 27, 1);
        madeIs(with(0, 3, 0, 0, ""), 28, 2, 28, 2, 27, 0);
    }

    static void heapAtTheTop() {
        DUE.sentence("Terms 3: the nearest one: of two as near the lower one; 63 at most");
        madeIs(with(0, 9, 0, 0, ""), 63, 1, 63, 1);
        madeIs(with(0, 9, 0, 0, ""), 63, 2, 63, 1, 60, 1);
        madeIs(with(0, 9, 0, 0, ""), 62, 1, 60, 1);
        madeIs(with(0, 9, 0, 0, ""), 1, 1, 0, 1);
    }

    static void makeByKind() {
        DUE.sentence("Terms 1: LINE 0, if its KIND is 1 or 2: of worlds too");
        for (int kind = 0; kind <= 2; kind++) {
            KingsInches x = with(0, 0, 4, 10, "*:31");
            x.set(0, 2, kind);
            madeIs(x, 30, 1, kind == 0 ? 31 : 30, 1);
        }
    }

    /** Worlds of one man each: HEIGHTS 0, 0, none, 1, 0, 0, none, 1. */
    static void offOfSomeWorlds() {
        DUE.sentence("Terms 5: as many as told, 1 to 8; a world without MEN counts 63");
        int[] byMean = {0, 0, 63, 64, 64, 64, 127, 128};
        int[] byFit = {0, 0, 63, 63, 63, 63, 126, 126};
        KingsInches x = new KingsInches();
        for (int worlds = 1; worlds <= 8; worlds++) {
            for (int rule = 0; rule <= 3; rule++) {
                DUE.due("worlds " + worlds + ", rule " + rule, (rule < 2 ? byMean : byFit)[worlds - 1],
                        x.off(0, 0, 0, 1, 1, worlds, rule));
            }
        }
        DUE.due("worlds 0", KingsInches.OUTSIDE, x.off(0, 0, 0, 1, 1, 0, 0));
        DUE.due("worlds 9", KingsInches.OUTSIDE, x.off(0, 0, 0, 1, 1, 9, 0));
        DUE.due("rule -1", KingsInches.OUTSIDE, x.off(0, 0, 0, 1, 1, 1, -1));
        DUE.due("rule 4", KingsInches.OUTSIDE, x.off(0, 0, 0, 1, 1, 1, 4));
        Due.take(x, 0, "*:63");
        for (int rule = 0; rule <= 3; rule++) {
            DUE.due("eight without MEN, rule " + rule, 504, x.off(0, 9999, 20, 1, 200, 8, rule));
        }
    }

    static void offBeyondTheLastSeed() {
        DUE.sentence("Terms 5: worlds MADE from seeds s, s and 1, ...");
        KingsInches x = new KingsInches();
        DUE.due("of 9999: one below", 1, x.off(0, 9999, 30, 1, 1, 1, 0));
        DUE.due("of 9999 and 10000: one above", 2, x.off(0, 9999, 30, 1, 1, 2, 0));
        DUE.due("of 9999, outside, and 10000", 64, x.off(0, 9999, 0, 1, 1, 2, 0));
    }

    static void offIsFar() {
        DUE.sentence("Terms 5: how far they are from m, below or above");
        KingsInches x = new KingsInches();
        DUE.due("one below", 1, x.off(0, 2, 30, 1, 1, 1, 1));
        DUE.due("one above", 1, x.off(0, 3, 30, 1, 1, 1, 1));
        DUE.due("both", 2, x.off(0, 2, 30, 1, 1, 2, 1));
        DUE.sentence("Terms 5: 0 MEAN cut, 1 MODE, 2 FIT, 3 FOUND's MIDDLE");
        // Two men of 30 and one of 29: MEAN 89 by 3.
        DUE.due("MEAN cut", 1, x.off(0, 0, 30, 1, 3, 1, 0));
        DUE.due("MODE", 0, x.off(0, 0, 30, 1, 3, 1, 1));
        // One man of 31: by no MIDDLE is he EXPECTED, but by line 31 and MIDDLE 30.
        DUE.due("FIT", 30, x.off(0, 3, 30, 1, 1, 1, 2));
        DUE.due("FOUND", 0, x.off(0, 3, 30, 1, 1, 1, 3));
    }

    /** Two men of 30 and one of 29; from line 30 on 29 is not taken, from 31 on nobody. */
    static void offByTheLineOfTheBook() {
        DUE.sentence("Terms 5: OFF: worlds MADE in the BOOK, by its LINE");
        KingsInches x = Due.withRule("y=1:30;y=2:31");
        DUE.due("line 0, MEAN", 1, x.off(5, 0, 30, 1, 3, 1, 0));
        x.set(5, 0, 1);
        DUE.due("line 30, MEAN", 0, x.off(5, 0, 30, 1, 3, 1, 0));
        DUE.due("line 30, FIT", 1, x.off(5, 0, 30, 1, 1, 1, 2));
        x.set(5, 0, 2);
        DUE.due("line 31, nobody", 63, x.off(5, 0, 30, 1, 1, 1, 0));
        DUE.due("another BOOK has line 0", 0, x.off(4, 0, 30, 1, 1, 1, 0));
        x.set(5, 2, 1);
        DUE.due("KIND 1 has line 0", 0, x.off(5, 0, 30, 1, 1, 1, 0));
    }

    static void offLeavesTheBook() {
        DUE.sentence("Terms 5: the BOOK is as it was then");
        String full = Full.shown(Full.make(), Full.AS_IT_IS);
        for (int book = 0; book < 6; book++) {
            KingsInches x = Full.make();
            x.off(book, 5, 30, 3, 60, 8, 3);
            x.best(book, 5, 30, 3, 60, 8);
            DUE.holds("BOOK " + book, Full.shown(x, Full.AS_IT_IS).equals(full));
        }
        DUE.sentence("Terms 5: worlds do not ask for MEN that were in the BOOK");
        KingsInches crowd = Due.withFullBook(0);
        for (int rule = 0; rule <= 3; rule++) {
            DUE.due("rule " + rule, new KingsInches().off(0, 0, 30, 1, 3, 2, rule),
                    crowd.off(0, 0, 30, 1, 3, 2, rule));
        }
        DUE.due("a full BOOK", 64 * 999, crowd.told(10));
    }

    static void bestIsTheFirst() {
        DUE.sentence("Terms 5: BEST: the rule with the least OFF, the first such");
        KingsInches x = new KingsInches();
        int[][] offs = {{0, 1, 0, 0, 30, 1}, {0, 3, 1, 0, 1, 1}, {0, 5, 1, 1, 0, 0}, {3, 1, 1, 1, 30, 0}};
        int[] best = {0, 1, 2, 3};
        for (int i = 0; i < offs.length; i++) {
            for (int rule = 0; rule <= 3; rule++) {
                DUE.due("seed " + offs[i][0] + ", n " + offs[i][1] + ", rule " + rule, offs[i][2 + rule],
                        x.off(0, offs[i][0], 30, 1, offs[i][1], 1, rule));
            }
            DUE.due("best", best[i], x.best(0, offs[i][0], 30, 1, offs[i][1], 1));
        }
        DUE.due("of eight worlds: 128, 128, 126, 126", 2, x.best(0, 0, 0, 1, 1, 8));
        DUE.due("worlds 0", KingsInches.OUTSIDE, x.best(0, 0, 0, 1, 1, 0));
        DUE.due("worlds 9", KingsInches.OUTSIDE, x.best(0, 0, 0, 1, 1, 9));
        Due.take(x, 0, "*:63");
        DUE.due("worlds without MEN: all are as good", 0, x.best(0, 0, 20, 1, 200, 8));
    }

    static void imageOfNothing() {
        DUE.sentence("Promise 32: an IMAGE of a new object");
        for (int image = 0; image <= 1; image++) {
            KingsInches x = new KingsInches();
            DUE.due("image(" + image + ")", 1, x.image(image));
            x.men(5, 63, 999);
            x.set(5, 1, 40);
            x.way(4, 10);
            Due.take(x, 0, "*:9");
            Due.take(x, 1, "14:9");
            DUE.due("restore(" + image + ")", 1, x.restore(image));
            DUE.holds("as new", Full.shown(x, Full.AS_IT_IS).equals(Full.shown(new KingsInches(), Full.AS_IT_IS)));
        }
    }

    static void allButSigns() {
        DUE.sentence("Promise 32, 33: All but signs is kept; it is as it was when it was kept");
        KingsInches x = Full.make();
        x.image(0);
        for (int which = 0; which < 5; which++) {
            x.way(which, 0);
        }
        for (int book = 0; book < 6; book++) {
            x.make(book, 7, 30, 3, 20);
            x.set(book, 0, 77);
            x.set(book, 1, 33);
            x.set(book, 2, 1);
        }
        DUE.due("restore(0)", 1, x.restore(0));
        DUE.holds("BOOKS and ways", Full.shown(x, Full.AS_IT_IS).equals(Full.shown(Full.make(), Full.AS_IT_IS)));
        KingsInches y = Full.make();
        y.image(0);
        Due.take(y, 0, "*:1");
        Due.take(y, 1, "14:1");
        Due.say(y, "xyz");
        y.restore(0);
        DUE.due("signs stay as they are now", 3, y.told(0));
        DUE.due("CASES", 2, y.told(1));
        DUE.due("ITEMS", 2, y.told(2));
        DUE.due("LINE of YEAR 8", 20, y.line(0));
        DUE.due("GROWN", 4, y.grown(3, 0, 0));
        DUE.due("the sign that can not stand there", 0, y.fault(0));
    }

    static void imagesAreTwo() {
        DUE.sentence("Promise 32: an IMAGE (0, 1)");
        KingsInches x = new KingsInches();
        x.set(0, 0, 1);
        DUE.due("image(0)", 1, x.image(0));
        DUE.due("restore(1)", KingsInches.STATE, x.restore(1));
        x.set(0, 0, 2);
        DUE.due("image(1)", 1, x.image(1));
        DUE.due("image(2)", KingsInches.OUTSIDE, x.image(2));
        DUE.due("image(-1)", KingsInches.OUTSIDE, x.image(-1));
        DUE.due("restore(2)", KingsInches.OUTSIDE, x.restore(2));
        DUE.due("restore(-1)", KingsInches.OUTSIDE, x.restore(-1));
        x.restore(0);
        DUE.due("IMAGE 0", 1, x.told(20));
        x.restore(1);
        DUE.due("IMAGE 1, kept after IMAGE 0", 2, x.told(20));
    }

    static void imageKeptAgain() {
        DUE.sentence("Promise 32: an IMAGE that is kept again");
        KingsInches x = new KingsInches();
        x.men(0, 5, 1);
        x.image(0);
        x.image(1);
        x.men(0, 5, 2);
        DUE.due("image(0) again", 1, x.image(0));
        x.men(0, 5, 3);
        x.restore(0);
        DUE.due("as it was the second time", 2, x.told(10));
        x.restore(1);
        DUE.due("the other one is as it was", 1, x.told(10));
    }

    static void restoreKeepsTheImage() {
        DUE.sentence("Promise 33: It is as it was when it was kept, each time");
        KingsInches x = new KingsInches();
        x.men(0, 5, 1);
        x.image(0);
        for (int time = 0; time < 3; time++) {
            x.men(0, 5, 9);
            x.men(0, 6, 9);
            x.set(0, 0, 9);
            x.way(0, 9);
            DUE.due("restore(0)", 1, x.restore(0));
            DUE.due("MEN", 1, x.told(10));
            DUE.due("YEAR", 0, x.told(20));
            DUE.due("LEAK", 0, x.told(3));
        }
    }

    static void toldOfTexts() {
        DUE.sentence("Promise 34: 0 signs, 1 CASES, 2 ITEMS, 3 to 7 what way() sets");
        KingsInches x = new KingsInches();
        Due.take(x, 0, "*:1;*:2;*:3");
        Due.take(x, 1, "14:1;15:2");
        Due.say(x, "!!!!!");
        int[] ways = {9, 8, 4, 10, 7};
        for (int which = 0; which < 5; which++) {
            x.way(which, ways[which]);
        }
        int[] told = {5, 3, 2, 9, 8, 4, 10, 7};
        for (int what = 0; what < told.length; what++) {
            DUE.due("told(" + what + ")", told[what], x.told(what));
        }
    }

    static void toldOfBooks() {
        DUE.sentence("Promise 34: 10 to 15 MEN of BOOKS, 20 to 25 YEARS, 30 to 35 AGES, 40 to 45 KINDS");
        KingsInches x = new KingsInches();
        for (int book = 0; book < 6; book++) {
            x.men(book, 0, 100 + book);
            x.men(book, 63, 1);
            x.set(book, 0, 90 + book);
            x.set(book, 1, 35 + book % 5);
            x.set(book, 2, 1 + book % 2);
        }
        for (int book = 0; book < 6; book++) {
            DUE.due("MEN", 101 + book, x.told(10 + book));
            DUE.due("YEAR", 90 + book, x.told(20 + book));
            DUE.due("AGE", 35 + book % 5, x.told(30 + book));
            DUE.due("KIND", 1 + book % 2, x.told(40 + book));
        }
        DUE.due("MEN of a full BOOK", 64 * 999, Due.withFullBook(3).told(13));
    }

    static void toldBetween() {
        DUE.sentence("Promise 34: OUTSIDE");
        KingsInches x = new KingsInches();
        for (int what = -60; what <= 160; what++) {
            boolean within = what >= 0 && what <= 7 || what >= 10 && what <= 45 && what % 10 <= 5;
            DUE.due("told(" + what + ") is OUTSIDE", within ? 0 : 1, x.told(what) == KingsInches.OUTSIDE ? 1 : 0);
        }
        DUE.due("told(MIN)", KingsInches.OUTSIDE, x.told(Integer.MIN_VALUE));
        DUE.due("told(MAX)", KingsInches.OUTSIDE, x.told(Integer.MAX_VALUE));
    }
}
