/** Terms, part 3, and promises 16 to 20: each sentence that names a boundary case, by itself. */
public final class EdgesOfHeapsTest {
    private static final Due DUE = new Due();

    public static void main(String[] args) {
        nearestWholeInch();
        ofTwoAsNear();
        heldTo63();
        wholeInchesStay();
        heapOf0And9();
        favourUpToItsQuarters();
        favourOnlyBelowTheLine();
        favourTenths();
        favourAheadOfHeap();
        favourAtAWholeInch();
        lineZero();
        lineSixtyThree();
        allOddsTogether();
        backToWhereHeStands();
        backOfNobody();
        backBeyondTheEnds();
        backByFavour();
        pileOfNobody();
        pileAtWholeInches();
        grownBelow23();
        grownByTheFirstItem();
        grownWithoutItems();
        liedTenths();
        liedAtTheEnds();
        rightIsBoth();
        DUE.end();
    }

    private static KingsInches with(int heap, int favour, int tenths) {
        KingsInches x = new KingsInches();
        x.way(1, heap);
        x.way(2, favour);
        x.way(3, tenths);
        return x;
    }

    private static void writtenIs(KingsInches x, int line, int stands, int at, long upper, long lower) {
        DUE.due("written(" + line + ", " + stands + ", " + at + ")", upper, lower,
                x.written(line, stands, at, 0), x.written(line, stands, at, 1));
    }

    static void nearestWholeInch() {
        DUE.sentence("Terms 3: HEAP: written at the nearest one");
        KingsInches x = with(9, 0, 0);
        int[][] nearest = {{1, 0}, {3, 4}, {5, 4}, {7, 8}, {57, 56}, {59, 60}, {61, 60}};
        for (int[] n : nearest) {
            writtenIs(x, 0, n[0], n[1], 9, 10);
            writtenIs(x, 0, n[0], n[0], 1, 10);
        }
        writtenIs(x, 0, 1, 4, 0, 1);
        writtenIs(x, 0, 3, 0, 0, 1);
    }

    static void ofTwoAsNear() {
        DUE.sentence("Terms 3: HEAP: of two as near the lower one");
        KingsInches x = with(9, 0, 0);
        for (int stands = 2; stands < 63; stands += 4) {
            writtenIs(x, 0, stands, stands - 2, 9, 10);
            if (stands + 2 < 64) {
                writtenIs(x, 0, stands, stands + 2, 0, 1);
            }
        }
    }

    static void heldTo63() {
        DUE.sentence("Terms 3: HEAP: 63 at most");
        KingsInches x = with(9, 0, 0);
        writtenIs(x, 0, 63, 63, 1, 1);
        writtenIs(x, 0, 63, 60, 0, 1);
        writtenIs(x, 0, 62, 60, 9, 10);
        writtenIs(x, 0, 62, 63, 0, 1);
        writtenIs(x, 0, 62, 62, 1, 10);
    }

    static void wholeInchesStay() {
        DUE.sentence("Terms 3: HEAP: of men who stand at no whole inch");
        KingsInches x = with(9, 0, 0);
        for (int stands = 0; stands < 64; stands += 4) {
            writtenIs(x, 0, stands, stands, 1, 1);
            writtenIs(x, 0, stands, (stands + 4) % 64, 0, 1);
        }
    }

    static void heapOf0And9() {
        DUE.sentence("Terms 3: HEAP (tenths, 0 to 9)");
        KingsInches x = new KingsInches();
        writtenIs(x, 0, 5, 5, 1, 1);
        writtenIs(x, 0, 5, 4, 0, 1);
        x.way(1, 1);
        writtenIs(x, 0, 5, 5, 9, 10);
        writtenIs(x, 0, 5, 4, 1, 10);
        x.way(1, 9);
        writtenIs(x, 0, 5, 5, 1, 10);
        writtenIs(x, 0, 5, 4, 9, 10);
    }

    static void favourUpToItsQuarters() {
        DUE.sentence("Terms 3: FAVOUR: below the line by no more than FAVOUR");
        for (int favour = 0; favour <= 4; favour++) {
            KingsInches x = with(0, favour, 10);
            for (int below = 1; below <= 6; below++) {
                boolean favoured = below <= favour;
                writtenIs(x, 40, 40 - below, 40, favoured ? 1 : 0, 1);
                writtenIs(x, 40, 40 - below, 40 - below, favoured ? 0 : 1, 1);
            }
        }
    }

    static void favourOnlyBelowTheLine() {
        DUE.sentence("Terms 3: FAVOUR: of men who stand below the line");
        KingsInches x = with(0, 4, 10);
        writtenIs(x, 41, 41, 41, 1, 1);
        writtenIs(x, 41, 42, 42, 1, 1);
        writtenIs(x, 41, 42, 41, 0, 1);
        writtenIs(x, 41, 45, 41, 0, 1);
        writtenIs(x, 41, 40, 41, 1, 1);
    }

    static void favourTenths() {
        DUE.sentence("Terms 3: FAVOUR: its tenths (0 to 10)");
        int[][] lowest = {{0, 1}, {1, 10}, {1, 5}, {3, 10}, {2, 5}, {1, 2}, {3, 5}, {7, 10}, {4, 5}, {9, 10}, {1, 1}};
        for (int tenths = 0; tenths <= 10; tenths++) {
            KingsInches x = with(0, 1, tenths);
            writtenIs(x, 40, 39, 40, lowest[tenths][0], lowest[tenths][1]);
            writtenIs(x, 40, 39, 39, lowest[10 - tenths][0], lowest[10 - tenths][1]);
        }
    }

    static void favourAheadOfHeap() {
        DUE.sentence("Terms 3: FAVOUR: ahead of HEAP; nobody who is favoured is heaped");
        KingsInches some = with(9, 2, 5);
        writtenIs(some, 43, 42, 43, 1, 2);
        writtenIs(some, 43, 42, 40, 9, 20);
        writtenIs(some, 43, 42, 42, 1, 20);
        KingsInches all = with(9, 2, 10);
        writtenIs(all, 43, 42, 43, 1, 1);
        writtenIs(all, 43, 42, 40, 0, 1);
        writtenIs(all, 43, 42, 44, 0, 1);
        writtenIs(all, 43, 43, 44, 9, 10);
        writtenIs(all, 43, 43, 43, 1, 10);
    }

    static void favourAtAWholeInch() {
        DUE.sentence("Terms 3: WRITTEN: at the line by FAVOUR and by HEAP, where that is the nearest one");
        KingsInches x = with(9, 1, 5);
        writtenIs(x, 44, 43, 44, 19, 20);
        writtenIs(x, 44, 43, 43, 1, 20);
        writtenIs(x, 45, 44, 45, 1, 2);
        writtenIs(x, 45, 44, 44, 1, 2);
    }

    static void lineZero() {
        DUE.sentence("Terms 3: WRITTEN (line 0: no FAVOUR)");
        KingsInches x = with(0, 4, 10);
        for (int stands = 0; stands <= 5; stands++) {
            writtenIs(x, 0, stands, stands, 1, 1);
            if (stands > 0) {
                writtenIs(x, 0, stands, 0, 0, 1);
            }
        }
        writtenIs(x, 1, 0, 1, 1, 1);
        writtenIs(x, 1, 0, 0, 0, 1);
        writtenIs(x, 4, 0, 4, 1, 1);
        writtenIs(x, 5, 0, 5, 0, 1);
    }

    static void lineSixtyThree() {
        DUE.sentence("Terms 3: WRITTEN at the last line");
        KingsInches x = with(9, 4, 10);
        writtenIs(x, 63, 63, 63, 1, 1);
        writtenIs(x, 63, 62, 63, 1, 1);
        writtenIs(x, 63, 59, 63, 1, 1);
        writtenIs(x, 63, 58, 63, 0, 1);
        writtenIs(x, 63, 58, 56, 9, 10);
    }

    static void allOddsTogether() {
        DUE.sentence("Terms 3: WRITTEN: the odds that one who stands at a HEIGHT is written at another one");
        for (int line = 0; line < 64; line += 21) {
            for (int stands = 0; stands < 64; stands++) {
                KingsInches x = with(7, 3, 3);
                long hundredths = 0;
                for (int at = 0; at < 64; at++) {
                    hundredths += 100 / x.written(line, stands, at, 1) * x.written(line, stands, at, 0);
                }
                DUE.due("line " + line + ", stands " + stands, 100, hundredths);
            }
        }
    }

    private static void backIs(KingsInches x, int m, int line, int at, int stands, long upper, long lower) {
        DUE.due("back(" + m + ", 1, " + line + ", " + at + ", " + stands + ")", upper, lower,
                x.back(m, 1, line, at, stands, 0), x.back(m, 1, line, at, stands, 1));
    }

    /** HUMP 1, 2, 1 of 9, 10, 11; half of them are written at 8, 8, 12. */
    static void backToWhereHeStands() {
        DUE.sentence("Terms 3: BACK: the odds that one who is WRITTEN at a HEIGHT stands at another one");
        KingsInches x = with(5, 0, 0);
        backIs(x, 10, 0, 8, 9, 1, 3);
        backIs(x, 10, 0, 8, 10, 2, 3);
        backIs(x, 10, 0, 8, 11, 0, 1);
        backIs(x, 10, 0, 12, 11, 1, 1);
        backIs(x, 10, 0, 10, 10, 1, 1);
        backIs(x, 10, 0, 10, 9, 0, 1);
    }

    static void backOfNobody() {
        DUE.sentence("Terms: 0 by 1 for nothing: BACK, where nobody is written");
        KingsInches x = with(5, 0, 0);
        backIs(x, 10, 0, 7, 7, 0, 1);
        backIs(x, 10, 0, 7, 10, 0, 1);
        backIs(x, 10, 0, 63, 0, 0, 1);
        backIs(x, 10, 0, 8, 8, 0, 1);
        KingsInches y = with(0, 1, 10);
        DUE.sentence("Terms: 0 by 1 for nothing: BACK, where all have gone to the line");
        backIs(y, 10, 10, 9, 9, 0, 1);
    }

    static void backBeyondTheEnds() {
        DUE.sentence("Terms 2: those outside 0 to 63 are not counted, in BACK neither");
        KingsInches x = with(5, 0, 0);
        backIs(x, 0, 0, 0, 0, 4, 5);
        backIs(x, 0, 0, 0, 1, 1, 5);
        backIs(x, 63, 0, 63, 63, 1, 1);
        backIs(x, 63, 0, 60, 62, 1, 1);
        backIs(x, 63, 0, 60, 63, 0, 1);
    }

    static void backByFavour() {
        DUE.sentence("Terms 3: BACK by FAVOUR, just as far as that goes");
        KingsInches x = with(0, 1, 10);
        backIs(x, 10, 10, 10, 9, 1, 3);
        backIs(x, 10, 10, 10, 10, 2, 3);
        backIs(x, 10, 11, 11, 10, 2, 3);
        backIs(x, 10, 11, 11, 9, 0, 1);
        backIs(x, 10, 11, 9, 9, 1, 1);
        backIs(x, 10, 12, 12, 11, 1, 1);
        backIs(x, 10, 13, 13, 11, 0, 1);
        DUE.sentence("Terms 3: BACK, line 0: no FAVOUR");
        backIs(x, 0, 0, 0, 0, 1, 1);
        backIs(x, 0, 0, 0, 1, 0, 1);
        DUE.sentence("Terms 3: BACK asks for no LEAK");
        x.way(0, 5);
        backIs(x, 10, 10, 10, 9, 1, 3);
    }

    static void pileOfNobody() {
        DUE.sentence("Terms: 0 by 1 for nothing: PILE of a BOOK without MEN");
        KingsInches x = new KingsInches();
        for (int book = 0; book < 6; book++) {
            DUE.due("pile", 0, 1, x.pile(book, 0), x.pile(book, 1));
        }
        DUE.sentence("Terms: 0 by 1 for nothing: PILE without MEN at whole inches");
        x.men(0, 63, 999);
        x.men(0, 1, 999);
        DUE.due("pile", 0, 1, x.pile(0, 0), x.pile(0, 1));
    }

    static void pileAtWholeInches() {
        DUE.sentence("Terms 3: PILE: MEN at whole inches times 4, by all its MEN");
        for (int height = 0; height < 64; height++) {
            KingsInches x = new KingsInches();
            x.men(5, height, 999);
            DUE.due("all at " + height, height % 4 == 0 ? 4 : 0, 1, x.pile(5, 0), x.pile(5, 1));
        }
        KingsInches full = Due.withFullBook(5);
        DUE.due("a full BOOK", 1, 1, full.pile(5, 0), full.pile(5, 1));
        full.men(5, 0, 998);
        DUE.due("one man less", 4 * (16 * 999 - 1), 64 * 999 - 1, full.pile(5, 0), full.pile(5, 1));
    }

    private static void grownIs(KingsInches x, int age, long sum, long upper, long lower) {
        x.set(0, 1, age);
        DUE.due("by what is said, AGE " + age, sum, 1, x.grown(0, 0, 0), x.grown(0, 0, 1));
        DUE.due("the mean, AGE " + age, upper, lower, x.grown(0, 1, 0), x.grown(0, 1, 1));
    }

    private static KingsInches withGrowth(String text) {
        KingsInches x = new KingsInches();
        Due.take(x, 1, text);
        return x;
    }

    static void grownBelow23() {
        DUE.sentence("Terms 3: GROWN: the sum for AGES from its own on, below 23");
        KingsInches x = withGrowth("14:1;15:2;21:3;22:4;23:9;24:9;40:9;13:9");
        grownIs(x, 14, 10, 10, 1);
        grownIs(x, 15, 9, 9, 1);
        grownIs(x, 16, 7, 7, 1);
        grownIs(x, 21, 7, 7, 1);
        grownIs(x, 22, 4, 4, 1);
        grownIs(x, 23, 0, 0, 1);
        grownIs(x, 24, 0, 0, 1);
        grownIs(x, 40, 0, 0, 1);
    }

    static void grownByTheFirstItem() {
        DUE.sentence("Terms 1: of two ITEMS of one AGE the first counts");
        grownIs(withGrowth("20:3;20:4"), 20, 3, 3, 1);
        grownIs(withGrowth("20:0;20:4"), 20, 0, 0, 1);
        grownIs(withGrowth("19:1;20:9;19:2;20:8;20:7"), 14, 10, 10, 1);
        grownIs(withGrowth("2:5;20:4"), 14, 4, 4, 1);
        grownIs(withGrowth("20:9"), 20, 9, 9, 1);
    }

    static void grownWithoutItems() {
        DUE.sentence("Terms 1: GROWTH: none at first");
        grownIs(new KingsInches(), 14, 0, 0, 1);
        DUE.sentence("Terms 1: an AGE without an ITEM");
        grownIs(withGrowth("14:1;16:2"), 15, 2, 2, 1);
        grownIs(withGrowth("0:9;9:9;99:9"), 14, 0, 0, 1);
    }

    /** GROWN of 20 is 3, of 19, the AGE ahead, 8. */
    static void liedTenths() {
        DUE.sentence("Terms 3: LIED (tenths, 0 to 10): the mean of GROWN of its AGE and of the AGE ahead");
        KingsInches x = withGrowth("19:5;20:3");
        int[][] means = {{3, 1}, {7, 2}, {4, 1}, {9, 2}, {5, 1}, {11, 2}, {6, 1}, {13, 2}, {7, 1}, {15, 2}, {8, 1}};
        for (int lied = 0; lied <= 10; lied++) {
            x.way(4, lied);
            grownIs(x, 20, 3, means[lied][0], means[lied][1]);
        }
        DUE.due("LIED 11", KingsInches.OUTSIDE, x.way(4, 11));
        grownIs(x, 20, 3, 8, 1);
    }

    static void liedAtTheEnds() {
        DUE.sentence("Terms 3: LIED at AGE 23 and 24: the AGE ahead is still below 23, or not");
        KingsInches x = withGrowth("22:4;23:9;13:6;14:1");
        x.way(4, 10);
        grownIs(x, 22, 4, 4, 1);
        grownIs(x, 23, 0, 4, 1);
        grownIs(x, 24, 0, 0, 1);
        grownIs(x, 40, 0, 0, 1);
        x.way(4, 5);
        grownIs(x, 23, 0, 2, 1);
        DUE.sentence("Terms 3: LIED at AGE 14: the AGE ahead is 13");
        grownIs(x, 14, 5, 8, 1);
        x.way(4, 10);
        grownIs(x, 14, 5, 11, 1);
        grownIs(x, 15, 4, 5, 1);
    }

    private static void rightIs(KingsInches x, int w, long upper, long lower) {
        DUE.due("right, w " + w, upper, lower, x.right(0, w, 0), x.right(0, w, 1));
    }

    static void rightIsBoth() {
        DUE.sentence("Terms 3: RIGHT of a BOOK by a WIDTH: FIT's MIDDLE and that mean");
        rightIs(new KingsInches(), 1, 0, 1);
        KingsInches x = withGrowth("19:5;20:3");
        x.men(0, 63, 2);
        x.men(0, 62, 1);
        rightIs(x, 1, 63, 1);
        x.set(0, 1, 20);
        rightIs(x, 1, 66, 1);
        x.way(4, 1);
        rightIs(x, 1, 133, 2);
        x.way(4, 10);
        rightIs(x, 1, 71, 1);
        DUE.sentence("Terms 3: RIGHT: FIT by the LINE of the BOOK");
        Due.take(x, 0, "*:63");
        rightIs(x, 1, 70, 1);
        rightIs(x, 8, 63, 1);
    }
}
