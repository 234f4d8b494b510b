/** Terms, part 2, and promises 10 to 15: each sentence that names a boundary case, by itself. */
public final class EdgesOfHumpsTest {
    private static final Due DUE = new Due();
    private static final int NO = KingsInches.NO;

    public static void main(String[] args) {
        humpEnds();
        humpOfEachWidth();
        humpBeyondTheEnds();
        upperFromTheLineOn();
        upperOfAll();
        upperOfNobody();
        upperBeyondTheEnds();
        partsAtTheLine();
        expectedIsCut();
        leakBelowTheLine();
        misfitWithoutParts();
        misfitBeyondTheEnds();
        misfitOfNobodyAndOfAll();
        fitIsTheFirst();
        fitByItsLine();
        fitAlwaysIs();
        spanBySlack();
        spanBySlackOf999();
        spanWithoutMisfit();
        foundIsTheFirstLine();
        foundIsTheFirstMiddle();
        foundAtTheEnds();
        noMiddleBeyondTheEnds();
        foundByLeakNotByLine();
        foundAlwaysIs();
        DUE.end();
    }

    static void humpEnds() {
        DUE.sentence("Terms 2: none, if that is not 0 to 2w");
        KingsInches x = new KingsInches();
        for (int w = 1; w <= 8; w++) {
            DUE.due("below, w " + w, 0, x.hump(30, w, 30 - w - 1));
            DUE.due("the least, w " + w, 1, x.hump(30, w, 30 - w));
            DUE.due("the second, w " + w, 2 * w, x.hump(30, w, 30 - w + 1));
            DUE.due("the last but one, w " + w, 2 * w, x.hump(30, w, 30 + w - 1));
            DUE.due("the greatest, w " + w, 1, x.hump(30, w, 30 + w));
            DUE.due("above, w " + w, 0, x.hump(30, w, 30 + w + 1));
        }
        DUE.due("far above", 0, x.hump(0, 8, 63));
        DUE.due("far below", 0, x.hump(63, 8, 0));
    }

    static void humpOfEachWidth() {
        DUE.sentence("Terms 2: of 4 to the power w men");
        int[] middle = {2, 6, 20, 70, 252, 924, 3432, 12870};
        KingsInches x = new KingsInches();
        for (int w = 1; w <= 8; w++) {
            long all = 0;
            for (int height = 30 - w; height <= 30 + w; height++) {
                all += x.hump(30, w, height);
            }
            DUE.due("all, w " + w, 1L << 2 * w, all);
            DUE.due("the MIDDLE, w " + w, middle[w - 1], x.hump(30, w, 30));
        }
    }

    static void humpBeyondTheEnds() {
        DUE.sentence("Terms 2: those outside 0 to 63 are not there");
        KingsInches x = new KingsInches();
        int[] half = {12870, 11440, 8008, 4368, 1820, 560, 120, 16, 1, 0};
        for (int far = 0; far < 10; far++) {
            DUE.due("hump(0, 8, " + far + ")", half[far], x.hump(0, 8, far));
            DUE.due("hump(63, 8, " + (63 - far) + ")", half[far], x.hump(63, 8, 63 - far));
        }
        DUE.due("hump(0, 8, -1)", KingsInches.OUTSIDE, x.hump(0, 8, -1));
        DUE.due("hump(63, 8, 64)", KingsInches.OUTSIDE, x.hump(63, 8, 64));
    }

    private static void upperIs(int m, int w, int line, int what, long upper, long lower) {
        KingsInches x = new KingsInches();
        DUE.due("upper(" + m + ", " + w + ", " + line + ", " + what + ")", upper, lower,
                x.upper(m, w, line, what, 0), x.upper(m, w, line, what, 1));
    }

    static void upperFromTheLineOn() {
        DUE.sentence("Terms 2: UPPER of it from a line on: men of that HEIGHT or more");
        upperIs(10, 1, 8, 0, 1, 1);
        upperIs(10, 1, 9, 0, 1, 1);
        upperIs(10, 1, 10, 0, 3, 4);
        upperIs(10, 1, 11, 0, 1, 4);
        upperIs(10, 1, 12, 0, 0, 1);
        upperIs(10, 1, 9, 1, 10, 1);
        upperIs(10, 1, 10, 1, 31, 3);
        upperIs(10, 1, 11, 1, 11, 1);
        upperIs(10, 1, 12, 1, 0, 1);
    }

    static void upperOfAll() {
        DUE.sentence("Terms 2: their part of all of the HUMP, in lowest terms");
        upperIs(40, 8, 0, 0, 1, 1);
        upperIs(40, 8, 32, 0, 1, 1);
        upperIs(40, 8, 33, 0, 65535, 65536);
        upperIs(40, 8, 48, 0, 1, 65536);
        upperIs(40, 8, 49, 0, 0, 1);
        upperIs(40, 8, 63, 0, 0, 1);
    }

    static void upperOfNobody() {
        DUE.sentence("Promise 11: the mean (1; 0 by 1 of nobody)");
        upperIs(40, 8, 48, 1, 48, 1);
        upperIs(40, 8, 49, 1, 0, 1);
        upperIs(0, 1, 1, 1, 1, 1);
        upperIs(0, 1, 2, 1, 0, 1);
        upperIs(0, 8, 63, 1, 0, 1);
        upperIs(62, 1, 63, 1, 63, 1);
        upperIs(61, 1, 63, 1, 0, 1);
    }

    /** Two men of 0 and one of 1; one man of 62 and two of 63. */
    static void upperBeyondTheEnds() {
        DUE.sentence("Terms 2: those outside 0 to 63 are not there, nor counted");
        upperIs(0, 1, 0, 0, 1, 1);
        upperIs(0, 1, 1, 0, 1, 3);
        upperIs(0, 1, 0, 1, 1, 3);
        upperIs(63, 1, 62, 0, 1, 1);
        upperIs(63, 1, 63, 0, 2, 3);
        upperIs(63, 1, 0, 1, 188, 3);
        upperIs(63, 1, 63, 1, 63, 1);
    }

    /** So many MEN of HEIGHT 10 in BOOK 0. */
    private static KingsInches menOf10(int n) {
        KingsInches x = new KingsInches();
        x.men(0, 10, n);
        return x;
    }

    static void partsAtTheLine() {
        DUE.sentence("Terms 2: men times 10 (at the line or above), times LEAK (below)");
        KingsInches x = menOf10(4);
        DUE.due("line 0: 1, 2, 1", 4, x.misfit(0, 10, 1, 0));
        DUE.due("line 9: 1, 2, 1", 4, x.misfit(0, 10, 1, 9));
        DUE.due("line 10: 0, 2, 1", 3, x.misfit(0, 10, 1, 10));
        DUE.due("line 11: 0, 0, 4", 8, x.misfit(0, 10, 1, 11));
    }

    static void expectedIsCut() {
        DUE.sentence("Terms 2: EXPECTED: all MEN of the BOOK times that part by all parts together, cut");
        DUE.due("one man: 0, 0, 0", 1, menOf10(1).misfit(0, 10, 1, 0));
        DUE.due("two men: 0, 1, 0", 1, menOf10(2).misfit(0, 10, 1, 0));
        DUE.due("three men: 0, 1, 0", 2, menOf10(3).misfit(0, 10, 1, 0));
        DUE.due("four men: 1, 2, 1", 4, menOf10(4).misfit(0, 10, 1, 0));
        DUE.due("seven men: 1, 3, 1", 6, menOf10(7).misfit(0, 10, 1, 0));
        DUE.due("999 men: 249, 499, 249", 998, menOf10(999).misfit(0, 10, 1, 0));
        KingsInches x = menOf10(2);
        x.men(0, 11, 1);
        DUE.due("of all MEN, not of those of a HEIGHT", 2, x.misfit(0, 10, 1, 0));
        x.men(0, 50, 1);
        DUE.due("MEN beside the HUMP are far from 0", 2, x.misfit(0, 10, 1, 0));
    }

    static void leakBelowTheLine() {
        DUE.sentence("Terms 2: LEAK (0 to 9): men below the line are taken for so many tenths");
        KingsInches x = menOf10(37);
        DUE.due("LEAK 0: 0, 0, 37", 74, x.misfit(0, 10, 1, 11));
        x.way(0, 1);
        DUE.due("LEAK 1: 1, 2, 10 of 13: 2, 5, 28", 62, x.misfit(0, 10, 1, 11));
        x.way(0, 9);
        DUE.due("LEAK 9: 9, 18, 10", 38, x.misfit(0, 10, 1, 11));
        DUE.due("all below the line: 9, 18, 9", 37, x.misfit(0, 10, 1, 12));
        DUE.due("none below the line: 9, 18, 9", 37, x.misfit(0, 10, 1, 9));
    }

    static void misfitWithoutParts() {
        DUE.sentence("Terms 2: NO, if all parts are 0");
        KingsInches x = menOf10(4);
        DUE.due("the greatest at the line", 8, x.misfit(0, 10, 1, 11));
        DUE.due("the greatest below the line", NO, x.misfit(0, 10, 1, 12));
        DUE.due("MIDDLE 0, line 63", NO, x.misfit(0, 0, 8, 63));
        DUE.due("MIDDLE 54, line 63", NO, x.misfit(0, 54, 8, 63));
        DUE.due("MIDDLE 55, line 63", 8, x.misfit(0, 55, 8, 63));
        DUE.due("of a BOOK without MEN", NO, x.misfit(1, 10, 1, 12));
        x.way(0, 1);
        DUE.due("with LEAK", 4, x.misfit(0, 10, 1, 12));
        DUE.due("with LEAK, without MEN", 0, x.misfit(1, 10, 1, 12));
        x.way(0, 0);
        DUE.due("without it again", NO, x.misfit(0, 10, 1, 12));
    }

    static void misfitBeyondTheEnds() {
        DUE.sentence("Terms 2: those outside 0 to 63 are not counted, in MISFIT neither");
        KingsInches x = new KingsInches();
        x.men(0, 0, 2);
        x.men(0, 1, 1);
        DUE.due("MIDDLE 0", 0, x.misfit(0, 0, 1, 0));
        x.men(1, 62, 1);
        x.men(1, 63, 2);
        DUE.due("MIDDLE 63", 0, x.misfit(1, 63, 1, 0));
        DUE.due("MIDDLE 63, line 63", 2, x.misfit(1, 63, 1, 63));
    }

    static void misfitOfNobodyAndOfAll() {
        DUE.sentence("Terms 2: the sum of how far each HEIGHT's MEN are from it");
        KingsInches none = new KingsInches();
        DUE.due("an empty BOOK", 0, none.misfit(0, 30, 8, 0));
        // EXPECTED of 63936: 15984, 31968, 15984, where 999 are each; 61 times 999 beside.
        KingsInches full = Due.withFullBook(0);
        DUE.due("a full BOOK, w 1", 14985 + 30969 + 14985 + 61 * 999, full.misfit(0, 30, 1, 0));
        DUE.due("a full BOOK, all EXPECTED at 63", 63936 - 999 + 63 * 999, full.misfit(0, 62, 1, 63));
        DUE.due("a full BOOK with LEAK", 0, full.way(0, 9));
        DUE.due("parts 1, 2, 1 of 9 tenths", 14985 + 30969 + 14985 + 61 * 999, full.misfit(0, 30, 1, 63));
    }

    static void fitIsTheFirst() {
        DUE.sentence("Terms 2: FIT: the MIDDLE by which MISFIT is least, the first such");
        KingsInches x = menOf10(2);
        x.men(0, 11, 2);
        DUE.due("10 and 11 are as good", 10, x.fit(0, 1, 0));
        DUE.due("MISFIT", 2, x.fit(0, 1, 1));
        DUE.due("of 11", 2, x.misfit(0, 11, 1, 0));
        DUE.due("all are as good", 0, menOf10(1).fit(0, 1, 0));
        x.men(1, 0, 2);
        x.men(1, 1, 1);
        DUE.due("MIDDLE 0", 0, x.fit(1, 1, 0));
        DUE.due("its MISFIT", 0, x.fit(1, 1, 1));
        x.men(2, 63, 2);
        x.men(2, 62, 1);
        DUE.due("MIDDLE 63", 63, x.fit(2, 1, 0));
        DUE.due("its MISFIT", 0, x.fit(2, 1, 1));
    }

    static void fitByItsLine() {
        DUE.sentence("Terms 2: FIT: MISFIT (with its LINE)");
        KingsInches x = menOf10(4);
        DUE.due("line 0", 10, x.fit(0, 1, 0));
        Due.take(x, 0, "y=0:10;y=1:11");
        DUE.due("line 10: 9 tells them all", 9, x.fit(0, 1, 0));
        DUE.due("its MISFIT", 0, x.fit(0, 1, 1));
        x.set(0, 0, 1);
        DUE.due("line 11: 11 expects 2 and 1 only", 11, x.fit(0, 1, 0));
        DUE.due("its MISFIT", 7, x.fit(0, 1, 1));
        x.set(0, 2, 1);
        DUE.due("KIND 1 has line 0", 10, x.fit(0, 1, 0));
        DUE.due("its MISFIT", 4, x.fit(0, 1, 1));
        x.set(0, 2, 2);
        DUE.due("KIND 2 has line 0", 4, x.fit(0, 1, 1));
    }

    static void fitAlwaysIs() {
        DUE.sentence("Promise 13: (There always is one.)");
        KingsInches x = Due.withRule("*:63");
        x.men(0, 0, 5);
        for (int w = 1; w <= 8; w++) {
            DUE.due("the first that reaches the line, w " + w, 63 - w, x.fit(0, w, 0));
            DUE.due("MISFIT, w " + w, 10, x.fit(0, w, 1));
            DUE.due("of nobody, w " + w, 63 - w, x.fit(1, w, 0));
            DUE.due("MISFIT of nobody, w " + w, 0, x.fit(1, w, 1));
        }
    }

    private static void spanIs(KingsInches x, int slack, int least, int greatest) {
        DUE.due("span, SLACK " + slack, least, greatest, x.span(0, 1, slack, 0), x.span(0, 1, slack, 1));
    }

    /** Four men of 10: MISFIT 4 by 10, 6 by 9 and 11, 7 by 0 and 63, else 8. */
    static void spanBySlack() {
        DUE.sentence("Terms 2: SPAN: MISFIT no more than that and the SLACK");
        KingsInches x = menOf10(4);
        int[] far = {8, 9, 10, 11, 12, 0, 1, 62, 63};
        int[] misfits = {8, 6, 4, 6, 8, 7, 8, 8, 7};
        for (int i = 0; i < far.length; i++) {
            DUE.due("misfit of " + far[i], misfits[i], x.misfit(0, far[i], 1, 0));
        }
        spanIs(x, 0, 10, 10);
        spanIs(x, 1, 10, 10);
        spanIs(x, 2, 9, 11);
        spanIs(x, 3, 0, 63);
        spanIs(x, 4, 0, 63);
        DUE.sentence("Terms 2: SPAN of a BOOK without MEN: all are as good");
        DUE.due("SLACK 0", 0, 63, x.span(1, 1, 0, 0), x.span(1, 1, 0, 1));
    }

    /** 999 men of 10 and one of 40: MISFIT 1000 by 10, 1500 by 9 and 11, 1998 near 40, 1999 by 0 and 63. */
    static void spanBySlackOf999() {
        DUE.sentence("Terms 2: SPAN by a SLACK (0 to 999)");
        KingsInches x = menOf10(999);
        x.men(0, 40, 1);
        spanIs(x, 0, 10, 10);
        spanIs(x, 499, 10, 10);
        spanIs(x, 500, 9, 11);
        spanIs(x, 997, 9, 11);
        spanIs(x, 998, 9, 41);
        spanIs(x, 999, 0, 63);
        DUE.due("SLACK 1000", KingsInches.OUTSIDE, x.span(0, 1, 1000, 0));
        DUE.due("SLACK -1", KingsInches.OUTSIDE, x.span(0, 1, -1, 0));
    }

    static void spanWithoutMisfit() {
        DUE.sentence("Terms 2: SPAN: a MIDDLE without a MISFIT is not of it");
        KingsInches x = menOf10(4);
        Due.take(x, 0, "*:10");
        DUE.due("MIDDLE 8 has none", NO, x.misfit(0, 8, 1, 10));
        spanIs(x, 0, 9, 9);
        spanIs(x, 2, 9, 9);
        spanIs(x, 3, 9, 10);
        spanIs(x, 6, 9, 11);
        spanIs(x, 7, 9, 63);
        spanIs(x, 999, 9, 63);
        Due.take(x, 0, "*:63");
        spanIs(x, 999, 62, 63);
        x.way(0, 1);
        spanIs(x, 999, 0, 63);
    }

    private static void foundIs(KingsInches x, int w, int line, int middle, int misfit) {
        DUE.due("line, w " + w, line, x.found(0, w, 0));
        DUE.due("MIDDLE, w " + w, middle, x.found(0, w, 1));
        DUE.due("MISFIT, w " + w, misfit, x.found(0, w, 2));
    }

    static void foundIsTheFirstLine() {
        DUE.sentence("Terms 2: FOUND: by which it is least, the first line");
        KingsInches x = new KingsInches();
        x.men(0, 11, 1);
        x.men(0, 12, 3);
        DUE.due("line 0, MIDDLE 12", 2, x.misfit(0, 12, 1, 0));
        DUE.due("line 12, MIDDLE 11 is as good", 2, x.misfit(0, 11, 1, 12));
        foundIs(x, 1, 0, 12, 2);
        KingsInches y = new KingsInches();
        y.men(0, 29, 1);
        y.men(0, 30, 2);
        y.men(0, 31, 1);
        foundIs(y, 1, 0, 30, 0);
        y.men(0, 29, 0);
        foundIs(y, 1, 30, 30, 0);
    }

    static void foundIsTheFirstMiddle() {
        DUE.sentence("Terms 2: FOUND: the first line, then MIDDLE");
        KingsInches x = new KingsInches();
        x.men(0, 10, 2);
        x.men(0, 12, 4);
        DUE.due("line 12, MIDDLE 11", 4, x.misfit(0, 11, 1, 12));
        DUE.due("line 12, MIDDLE 12 is as good", 4, x.misfit(0, 12, 1, 12));
        foundIs(x, 1, 12, 11, 4);
    }

    static void foundAtTheEnds() {
        DUE.sentence("Terms 2: FOUND: the line (0 to 63) and MIDDLE");
        KingsInches top = new KingsInches();
        top.men(0, 63, 5);
        for (int w = 1; w <= 8; w++) {
            foundIs(top, w, 63, 63 - w, 0);
        }
        KingsInches low = new KingsInches();
        low.men(0, 0, 2);
        low.men(0, 1, 1);
        foundIs(low, 1, 0, 0, 0);
        low.men(0, 0, 0);
        foundIs(low, 1, 1, 0, 0);
        KingsInches high = new KingsInches();
        high.men(0, 62, 1);
        high.men(0, 63, 2);
        foundIs(high, 1, 0, 63, 0);
    }

    /** What a HUMP of MIDDLE 64 or -1 would leave within 0 to 63, from line 57 or 1 on. */
    static void noMiddleBeyondTheEnds() {
        DUE.sentence("Terms 2: a MIDDLE m (0 to 63): FIT and FOUND look no farther");
        int[] tail = {999, 699, 381, 159, 49, 10, 1};
        KingsInches high = Due.withRule("*:57");
        for (int i = 0; i < tail.length; i++) {
            high.men(0, 63 - i, tail[i]);
        }
        DUE.due("FIT, high", 63, high.fit(0, 8, 0));
        DUE.due("FOUND's MIDDLE, high", 63, high.found(0, 8, 1));
        int[] lowTail = {999, 545, 227, 70, 15, 2};
        KingsInches low = Due.withRule("*:1");
        for (int i = 0; i < lowTail.length; i++) {
            low.men(0, 1 + i, lowTail[i]);
        }
        DUE.due("FIT, low", 0, low.fit(0, 8, 0));
        DUE.due("FOUND's MIDDLE, low", 0, low.found(0, 8, 1));
    }

    static void foundByLeakNotByLine() {
        DUE.sentence("Terms 2: FOUND: the line itself is found, whatever the LINE of the BOOK is");
        KingsInches x = menOf10(4);
        foundIs(x, 1, 10, 9, 0);
        Due.take(x, 0, "*:40");
        foundIs(x, 1, 10, 9, 0);
        x.set(0, 2, 1);
        foundIs(x, 1, 10, 9, 0);
        DUE.sentence("Terms 2: FOUND by MISFIT, with LEAK");
        // Parts 9, 20 and 10 of 39: EXPECTED 0, 2 and 1.
        x.way(0, 9);
        foundIs(x, 1, 10, 10, 3);
    }

    static void foundAlwaysIs() {
        DUE.sentence("Promise 15: (There always is one.)");
        KingsInches none = new KingsInches();
        KingsInches full = Due.withFullBook(0);
        for (int w = 1; w <= 8; w++) {
            foundIs(none, w, 0, 0, 0);
            DUE.due("its MISFIT is that of its line and MIDDLE, w " + w, full.found(0, w, 2),
                    full.misfit(0, full.found(0, w, 1), w, full.found(0, w, 0)));
        }
    }
}
