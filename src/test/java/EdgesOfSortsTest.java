/** Terms, part 4, and promises 21 to 28: each sentence that names a boundary case, by itself. */
public final class EdgesOfSortsTest {
    private static final Due DUE = new Due();
    private static final long LOST = -1000000000000000000L;
    private static final long LOST_UNKNOWN = LOST - 1, LOST_OUTSIDE = LOST - 2;
    private static final long LOST_STATE = LOST - 3, LOST_NO = LOST - 5;

    public static void main(String[] args) {
        sortsOfOneWidth();
        mixFromTheLineOn();
        mixByShares();
        mixBeyondTheEnds();
        mixOfNobody();
        fallBothWays();
        fallWithoutAMix();
        sharesAsTold();
        sharesNotAsTold();
        aloneOfOneShareEach();
        aloneEnds();
        aloneWithoutAMix();
        meanOfNobody();
        meanOfAll();
        modeOfNobody();
        modeIsTheFirst();
        aboutHeldTo0();
        aboutHeldTo63();
        aboutByQuarters();
        aboutOfNobody();
        aboutByKind();
        besideBelow0();
        besideByItsState();
        besideItself();
        shorterAtTheEnds();
        shorterOfTheSame();
        shorterByItsLine();
        refusalsOfBoth();
        DUE.end();
    }

    private static void mixIs(int one, int two, int line, int g, long upper, long lower) {
        KingsInches x = new KingsInches();
        DUE.due("mix(" + one + ", " + two + ", 1, " + line + ", " + g + ")", upper, lower,
                x.mix(one, two, 1, line, g, 0), x.mix(one, two, 1, line, g, 1));
    }

    /** Of WIDTH 2 a HUMP is 1, 4, 6, 4, 1: of SORT 0 four men of 11 and one of 12 are of line 11 or more. */
    static void sortsOfOneWidth() {
        DUE.sentence("Terms 4: Two SORTS of men: MIDDLES of both, one WIDTH");
        KingsInches x = new KingsInches();
        DUE.due("line 0", 15, 1, x.mix(10, 20, 2, 0, 50, 0), x.mix(10, 20, 2, 0, 50, 1));
        DUE.due("line 11", 376, 21, x.mix(10, 20, 2, 11, 50, 0), x.mix(10, 20, 2, 11, 50, 1));
        DUE.due("line 11, turned", 376, 21, x.mix(20, 10, 2, 11, 50, 0), x.mix(20, 10, 2, 11, 50, 1));
        DUE.due("one SORT twice", 10, 1, x.mix(10, 10, 2, 0, 30, 0), x.mix(10, 10, 2, 0, 30, 1));
    }

    static void mixFromTheLineOn() {
        DUE.sentence("Terms 4: MIX: the mean of those of the line or more");
        mixIs(10, 20, 9, 50, 15, 1);
        mixIs(10, 20, 10, 50, 111, 7);
        mixIs(10, 20, 11, 50, 91, 5);
        mixIs(10, 20, 12, 50, 20, 1);
        mixIs(10, 20, 19, 50, 20, 1);
        mixIs(10, 20, 20, 50, 61, 3);
        mixIs(10, 20, 21, 50, 21, 1);
        mixIs(62, 10, 63, 50, 63, 1);
    }

    static void mixByShares() {
        DUE.sentence("Terms 4: MIX by a share g (0 to 100): SORT 0 counting g times, SORT 1 100 less g times");
        mixIs(10, 20, 0, 0, 20, 1);
        mixIs(10, 20, 0, 1, 199, 10);
        mixIs(10, 20, 0, 25, 35, 2);
        mixIs(10, 20, 0, 99, 101, 10);
        mixIs(10, 20, 0, 100, 10, 1);
        mixIs(10, 20, 0, -1, LOST_OUTSIDE, LOST_OUTSIDE);
        mixIs(10, 20, 0, 101, LOST_OUTSIDE, LOST_OUTSIDE);
        // One man of 11 and four whose mean is 20: men count by shares, in the lower number too.
        mixIs(10, 20, 11, 25, 251, 13);
        mixIs(10, 20, 11, 75, 113, 7);
    }

    static void mixBeyondTheEnds() {
        DUE.sentence("Terms 4: those outside 0 to 63 are not made up for");
        mixIs(0, 20, 0, 50, 81, 7);
        mixIs(20, 0, 0, 50, 81, 7);
        mixIs(63, 20, 0, 50, 268, 7);
        mixIs(0, 63, 0, 50, 63, 2);
        mixIs(0, 0, 0, 100, 1, 3);
        mixIs(63, 63, 0, 0, 188, 3);
    }

    static void mixOfNobody() {
        DUE.sentence("Promise 21: NO: nobody is of the line or more");
        mixIs(10, 20, 11, 100, 11, 1);
        mixIs(10, 20, 12, 100, LOST_NO, LOST_NO);
        mixIs(10, 20, 12, 99, 20, 1);
        mixIs(20, 10, 12, 0, LOST_NO, LOST_NO);
        mixIs(20, 10, 12, 1, 20, 1);
        mixIs(10, 20, 21, 0, 21, 1);
        for (int g = 0; g <= 100; g += 50) {
            mixIs(10, 20, 22, g, LOST_NO, LOST_NO);
            mixIs(10, 20, 63, g, LOST_NO, LOST_NO);
        }
    }

    private static void fallIs(int line, int g, int h, long upper, long lower) {
        KingsInches x = new KingsInches();
        DUE.due("fall(10, 20, 1, " + line + ", " + g + ", " + h + ")", upper, lower,
                x.fall(10, 20, 1, line, g, h, 0), x.fall(10, 20, 1, line, g, h, 1));
    }

    static void fallBothWays() {
        DUE.sentence("Promise 22: a fraction, perhaps below 0");
        fallIs(0, 0, 100, 10, 1);
        fallIs(0, 100, 0, -10, 1);
        fallIs(0, 50, 51, 1, 10);
        fallIs(0, 51, 50, -1, 10);
        fallIs(0, 0, 0, 0, 1);
        fallIs(0, 100, 100, 0, 1);
        DUE.sentence("Terms: 0 by 1 for nothing: a FALL of none");
        fallIs(21, 0, 99, 0, 1);
        fallIs(12, 30, 60, 0, 1);
        DUE.sentence("Terms 4: shares 0 to 100, of both");
        fallIs(0, -1, 0, LOST_OUTSIDE, LOST_OUTSIDE);
        fallIs(0, 101, 0, LOST_OUTSIDE, LOST_OUTSIDE);
        fallIs(0, 0, -1, LOST_OUTSIDE, LOST_OUTSIDE);
        fallIs(0, 0, 101, LOST_OUTSIDE, LOST_OUTSIDE);
    }

    static void fallWithoutAMix() {
        DUE.sentence("Promise 22: NO: of either");
        fallIs(12, 100, 0, LOST_NO, LOST_NO);
        fallIs(12, 0, 100, LOST_NO, LOST_NO);
        fallIs(12, 100, 100, LOST_NO, LOST_NO);
        fallIs(12, 99, 99, 0, 1);
        fallIs(11, 100, 0, -9, 1);
        fallIs(22, 50, 50, LOST_NO, LOST_NO);
    }

    /** Without a line MIX of SORTS 10 and 20 is 20 less a tenth of the share. */
    private static void aloneIs(int line, int shares, int then, int end, long upper, long lower) {
        aloneIs(10, 20, line, shares, then, end, upper, lower);
    }

    private static void aloneIs(int one, int two, int line, int shares, int then, int end, long upper, long lower) {
        KingsInches x = new KingsInches();
        DUE.due("alone(" + one + ", " + two + ", 1, " + line + ", " + shares + ", " + then + ", " + end + ")",
                upper, lower, x.alone(one, two, 1, line, shares, then, end, 0),
                x.alone(one, two, 1, line, shares, then, end, 1));
    }

    static void sharesAsTold() {
        DUE.sentence("Promise 23: shares that may be are told as 1000 times the least, and the greatest");
        aloneIs(0, 0, 0, 0, 0, 1);
        aloneIs(0, 0, 100100, 0, 10, 1);
        aloneIs(0, 100100, 0, 0, -10, 1);
        aloneIs(0, 1001, 2002, 0, 1, 10);
        aloneIs(0, 100, 0, 0, -10, 1);
        aloneIs(0, 100, 0, 1, 0, 1);
        aloneIs(0, 0, 100, 0, 0, 1);
        aloneIs(0, 0, 100, 1, 10, 1);
        aloneIs(0, 99100, 0, 1, -99, 10);
        aloneIs(0, 1, 0, 0, -1, 10);
    }

    static void sharesNotAsTold() {
        DUE.sentence("Promise 23: 0 to 100 each, the least no more than the greatest");
        int[] taken = {0, 100, 1001, 1100, 50050, 50051, 99099, 99100, 100100};
        int[] refused = {-1, 101, 999, 1000, 2001, 50049, 50101, 99098, 100099, 100101, 101101, 101100, 100000,
            200200, -100100, -1001, Integer.MIN_VALUE, Integer.MAX_VALUE};
        KingsInches x = new KingsInches();
        for (int shares : taken) {
            DUE.holds(shares + " first", x.alone(10, 20, 1, 0, shares, 0, 0, 1) > 0);
            DUE.holds(shares + " then", x.alone(10, 20, 1, 0, 0, shares, 0, 1) > 0);
        }
        for (int shares : refused) {
            aloneIs(0, shares, 0, 0, LOST_OUTSIDE, LOST_OUTSIDE);
            aloneIs(0, 0, shares, 1, LOST_OUTSIDE, LOST_OUTSIDE);
        }
    }

    static void aloneOfOneShareEach() {
        DUE.sentence("Promise 23: of one share each both ends are that FALL");
        KingsInches x = new KingsInches();
        for (int end = 0; end <= 1; end++) {
            aloneIs(10, 50050, 75075, end, x.fall(10, 20, 1, 10, 50, 75, 0), x.fall(10, 20, 1, 10, 50, 75, 1));
            aloneIs(10, 75075, 50050, end, x.fall(10, 20, 1, 10, 75, 50, 0), x.fall(10, 20, 1, 10, 75, 50, 1));
        }
    }

    static void aloneEnds() {
        DUE.sentence("Promise 23: the least (end = 0), the greatest FALL (1)");
        aloneIs(0, 25050, 50075, 0, 0, 1);
        aloneIs(0, 25050, 50075, 1, 5, 1);
        aloneIs(0, 50075, 25050, 0, -5, 1);
        aloneIs(0, 50075, 25050, 1, 0, 1);
        aloneIs(0, 100, 100, 0, -10, 1);
        aloneIs(0, 100, 100, 1, 10, 1);
        aloneIs(20, 10, 0, 25050, 50075, 0, -5, 1);
        aloneIs(20, 10, 0, 25050, 50075, 1, 0, 1);
        aloneIs(20, 10, 0, 100, 100, 0, -10, 1);
        aloneIs(20, 10, 0, 100, 100, 1, 10, 1);
        DUE.sentence("Promise 23: of two SORTS alike every FALL is none");
        aloneIs(20, 20, 0, 100, 100, 0, 0, 1);
        aloneIs(20, 20, 0, 100, 100, 1, 0, 1);
    }

    static void aloneWithoutAMix() {
        DUE.sentence("Promise 23: NO: some MIX is not");
        for (int end = 0; end <= 1; end++) {
            aloneIs(12, 99099, 99099, end, 0, 1);
            aloneIs(12, 99100, 99099, end, LOST_NO, LOST_NO);
            aloneIs(12, 99099, 99100, end, LOST_NO, LOST_NO);
            aloneIs(12, 100, 0, end, LOST_NO, LOST_NO);
            aloneIs(12, 100100, 0, end, LOST_NO, LOST_NO);
            aloneIs(20, 10, 12, 1001, 1001, end, 0, 1);
            aloneIs(20, 10, 12, 1, 1001, end, LOST_NO, LOST_NO);
            aloneIs(20, 10, 12, 1001, 1, end, LOST_NO, LOST_NO);
            aloneIs(20, 10, 12, 1001, 0, end, LOST_NO, LOST_NO);
            aloneIs(22, 50050, 50050, end, LOST_NO, LOST_NO);
        }
        DUE.sentence("Promise 23: OUTSIDE goes ahead of NO");
        aloneIs(22, 1000, 0, 0, LOST_OUTSIDE, LOST_OUTSIDE);
        aloneIs(22, 0, 1000, 0, LOST_OUTSIDE, LOST_OUTSIDE);
        aloneIs(22, 0, 0, 2, LOST_OUTSIDE, LOST_OUTSIDE);
    }

    private static void meanIs(KingsInches x, int book, long upper, long lower) {
        DUE.due("mean of " + book, upper, lower, x.mean(book, 0), x.mean(book, 1));
    }

    static void meanOfNobody() {
        DUE.sentence("Terms: 0 by 1 for nothing: MEAN of a BOOK without MEN");
        KingsInches x = new KingsInches();
        for (int book = 0; book < 6; book++) {
            meanIs(x, book, 0, 1);
        }
        x.men(0, 63, 1);
        x.men(0, 63, 0);
        meanIs(x, 0, 0, 1);
    }

    static void meanOfAll() {
        DUE.sentence("Promise 24: MEAN, in lowest terms");
        KingsInches x = new KingsInches();
        x.men(0, 0, 999);
        meanIs(x, 0, 0, 1);
        x.men(0, 63, 1);
        meanIs(x, 0, 63, 1000);
        x.men(0, 0, 0);
        meanIs(x, 0, 63, 1);
        x.men(1, 1, 2);
        x.men(1, 2, 2);
        meanIs(x, 1, 3, 2);
        meanIs(Due.withFullBook(5), 5, 63, 2);
    }

    static void modeOfNobody() {
        DUE.sentence("Promise 25: NONE: no MEN");
        KingsInches x = new KingsInches();
        for (int book = 0; book < 6; book++) {
            DUE.due("mode of " + book, KingsInches.NONE, x.mode(book));
        }
        x.men(3, 0, 1);
        DUE.due("one man of HEIGHT 0", 0, x.mode(3));
        x.men(3, 0, 0);
        DUE.due("he went", KingsInches.NONE, x.mode(3));
        DUE.due("mode(6)", KingsInches.UNKNOWN, x.mode(6));
        DUE.due("mode(-1)", KingsInches.UNKNOWN, x.mode(-1));
    }

    static void modeIsTheFirst() {
        DUE.sentence("Terms 4: MODE (the HEIGHT with most MEN, the first such)");
        KingsInches x = Due.withFullBook(5);
        DUE.due("all alike", 0, x.mode(5));
        x.men(5, 0, 998);
        DUE.due("all but the first alike", 1, x.mode(5));
        x.men(0, 63, 1);
        DUE.due("the last alone", 63, x.mode(0));
        x.men(0, 62, 1);
        DUE.due("the last two alike", 62, x.mode(0));
        x.men(0, 63, 2);
        DUE.due("the last has one more", 63, x.mode(0));
        x.men(0, 0, 2);
        DUE.due("the first and the last alike", 0, x.mode(0));
    }

    private static void aboutIs(int height, int quarters, int end, long want) {
        KingsInches x = new KingsInches();
        x.set(1, 2, 2);
        x.men(1, height, 7);
        DUE.due("about " + quarters + " of " + height + ", end " + end, want, 1,
                x.about(1, quarters, end, 0), x.about(1, quarters, end, 1));
    }

    static void aboutHeldTo0() {
        DUE.sentence("Terms 4: ABOUT: so much less (held to 0 .. 63)");
        aboutIs(0, 0, 0, 0);
        aboutIs(0, 1, 0, 0);
        aboutIs(1, 1, 0, 0);
        aboutIs(2, 1, 0, 1);
        aboutIs(7, 8, 0, 0);
        aboutIs(8, 8, 0, 0);
        aboutIs(9, 8, 0, 1);
        aboutIs(63, 8, 0, 55);
    }

    static void aboutHeldTo63() {
        DUE.sentence("Terms 4: ABOUT: or more (held to 0 .. 63)");
        aboutIs(63, 0, 1, 63);
        aboutIs(63, 1, 1, 63);
        aboutIs(62, 1, 1, 63);
        aboutIs(61, 1, 1, 62);
        aboutIs(56, 8, 1, 63);
        aboutIs(55, 8, 1, 63);
        aboutIs(54, 8, 1, 62);
        aboutIs(0, 8, 1, 8);
    }

    static void aboutByQuarters() {
        DUE.sentence("Terms 4: ABOUT by so many QUARTERS (0 to 8): each may be so much less or more");
        KingsInches x = new KingsInches();
        x.set(1, 2, 2);
        x.men(1, 2, 1);
        x.men(1, 30, 1);
        x.men(1, 62, 1);
        DUE.due("0, least", 94, 3, x.about(1, 0, 0, 0), x.about(1, 0, 0, 1));
        DUE.due("0, greatest", 94, 3, x.about(1, 0, 1, 0), x.about(1, 0, 1, 1));
        DUE.due("8, least", 76, 3, x.about(1, 8, 0, 0), x.about(1, 8, 0, 1));
        DUE.due("8, greatest", 37, 1, x.about(1, 8, 1, 0), x.about(1, 8, 1, 1));
        DUE.due("9", LOST_OUTSIDE, x.about(1, 9, 0, 0));
        DUE.due("-1", LOST_OUTSIDE, x.about(1, -1, 0, 0));
    }

    static void aboutOfNobody() {
        DUE.sentence("Terms: 0 by 1 for nothing: ABOUT of a BOOK without MEN");
        KingsInches x = new KingsInches();
        x.set(5, 2, 2);
        for (int end = 0; end <= 1; end++) {
            DUE.due("end " + end, 0, 1, x.about(5, 8, end, 0), x.about(5, 8, end, 1));
        }
    }

    static void aboutByKind() {
        DUE.sentence("Promise 26: STATE: its KIND is not 2");
        KingsInches x = new KingsInches();
        x.men(0, 10, 1);
        DUE.due("KIND 0", LOST_STATE, x.about(0, 0, 0, 0));
        x.set(0, 2, 1);
        DUE.due("KIND 1", LOST_STATE, x.about(0, 0, 0, 0));
        x.set(0, 2, 2);
        DUE.due("KIND 2", 10, x.about(0, 0, 0, 0));
        x.set(0, 2, 0);
        DUE.due("KIND 0 again", LOST_STATE, x.about(0, 0, 0, 0));
        DUE.due("OUTSIDE goes ahead", LOST_OUTSIDE, x.about(0, 9, 0, 0));
        DUE.due("UNKNOWN goes ahead", LOST_UNKNOWN, x.about(6, 9, 0, 0));
    }

    static void besideBelow0() {
        DUE.sentence("Promise 27: BESIDE: a fraction, perhaps below 0");
        KingsInches x = new KingsInches();
        x.set(0, 2, 1);
        x.men(0, 0, 1);
        x.men(1, 63, 2);
        x.men(1, 62, 1);
        DUE.due("0 beside 63", -63, 1, x.beside(0, 1, 1, 0), x.beside(0, 1, 1, 1));
        x.men(0, 63, 1);
        DUE.due("31 and a half beside 63", -63, 2, x.beside(0, 1, 1, 0), x.beside(0, 1, 1, 1));
        x.men(0, 0, 0);
        DUE.due("63 beside 63", 0, 1, x.beside(0, 1, 1, 0), x.beside(0, 1, 1, 1));
        DUE.due("63 beside nobody", 63, 1, x.beside(0, 2, 1, 0), x.beside(0, 2, 1, 1));
        x.men(0, 62, 2);
        DUE.due("beside, in lowest terms", -2, 3, x.beside(0, 1, 1, 0), x.beside(0, 1, 1, 1));
    }

    static void besideByItsState() {
        DUE.sentence("Promise 27: STATE: the first one's KIND is not 1, or it has no MEN");
        KingsInches x = new KingsInches();
        x.men(0, 10, 1);
        DUE.due("KIND 0", LOST_STATE, x.beside(0, 1, 1, 0));
        x.set(0, 2, 2);
        DUE.due("KIND 2", LOST_STATE, x.beside(0, 1, 1, 0));
        x.set(0, 2, 1);
        DUE.due("KIND 1", 10, x.beside(0, 1, 1, 0));
        x.men(0, 10, 0);
        DUE.due("no MEN", LOST_STATE, x.beside(0, 1, 1, 0));
        x.men(0, 0, 1);
        DUE.due("a man of HEIGHT 0", 0, x.beside(0, 1, 1, 0));
        DUE.due("the other one's KIND is 0, without MEN", 1, x.beside(0, 1, 1, 1));
    }

    static void besideItself() {
        DUE.sentence("Terms 4: BESIDE: FIT's MIDDLE of another one, by that one's LINE");
        KingsInches x = Due.withRule("*:10");
        x.set(0, 2, 1);
        x.men(0, 10, 4);
        x.men(1, 10, 4);
        DUE.due("itself has no LINE", 0, 1, x.beside(0, 0, 1, 0), x.beside(0, 0, 1, 1));
        DUE.due("the other one has", 1, 1, x.beside(0, 1, 1, 0), x.beside(0, 1, 1, 1));
    }

    /** Four MEN of one HEIGHT: with SLACK 2 the SPAN goes from one below to one above. */
    static void shorterAtTheEnds() {
        DUE.sentence("Terms 4: SHORTER: 2: the second one's SPAN lies below; 0: it does not begin below; 1: else");
        int[] heights = {13, 12, 11, 10, 9, 8, 7, 6};
        int[] answers = {0, 0, 0, 0, 1, 1, 2, 2};
        for (int i = 0; i < heights.length; i++) {
            KingsInches x = new KingsInches();
            x.men(0, 10, 4);
            x.men(1, heights[i], 4);
            DUE.due("10, then " + heights[i], answers[i], x.shorter(0, 1, 1, 2));
            DUE.due("SLACK 0", heights[i] < 10 ? 2 : 0, x.shorter(0, 1, 1, 0));
            DUE.due("SLACK 999", 0, x.shorter(0, 1, 1, 999));
        }
        DUE.sentence("Terms 4: SHORTER: a longer SPAN that begins below, or where the other one does");
        KingsInches y = new KingsInches();
        y.men(0, 10, 4);
        DUE.due("all MIDDLES are as good, from 0 on", 1, y.shorter(0, 1, 1, 0));
        DUE.due("it begins above 0", 0, y.shorter(1, 0, 1, 0));
    }

    static void shorterOfTheSame() {
        DUE.sentence("Terms 4: SHORTER of a BOOK and itself, of two without MEN");
        KingsInches x = new KingsInches();
        x.men(0, 10, 4);
        DUE.due("itself", 0, x.shorter(0, 0, 1, 0));
        DUE.due("itself, SLACK 999", 0, x.shorter(0, 0, 1, 999));
        DUE.due("two without MEN", 0, x.shorter(1, 2, 8, 0));
        x.men(3, 0, 2);
        x.men(3, 1, 1);
        DUE.due("down to MIDDLE 0", 2, x.shorter(0, 3, 1, 0));
        DUE.due("up from MIDDLE 0", 0, x.shorter(3, 0, 1, 0));
    }

    static void shorterByItsLine() {
        DUE.sentence("Terms 4: SHORTER: each SPAN by its own BOOK's LINE");
        KingsInches x = Due.withRule("y=1:10");
        x.men(0, 10, 4);
        x.men(1, 10, 4);
        DUE.due("no LINE yet", 0, x.shorter(0, 1, 1, 0));
        x.set(1, 0, 1);
        DUE.due("by line 10 it was MIDDLE 9", 2, x.shorter(0, 1, 1, 0));
        DUE.due("the other way round", 0, x.shorter(1, 0, 1, 0));
        x.set(1, 2, 1);
        DUE.due("KIND 1 has no LINE", 0, x.shorter(0, 1, 1, 0));
    }

    static void refusalsOfBoth() {
        DUE.sentence("Promise 27, 28: UNKNOWN, if there is no such BOOK, first or second");
        KingsInches x = new KingsInches();
        x.set(0, 2, 1);
        x.men(0, 10, 1);
        int[] none = {-1, 6, Integer.MIN_VALUE, Integer.MAX_VALUE};
        for (int book : none) {
            DUE.due("shorter(" + book + ", 0)", KingsInches.UNKNOWN, x.shorter(book, 0, 9, 1000));
            DUE.due("shorter(0, " + book + ")", KingsInches.UNKNOWN, x.shorter(0, book, 9, 1000));
            DUE.due("beside(" + book + ", 0)", LOST_UNKNOWN, x.beside(book, 0, 9, 2));
            DUE.due("beside(0, " + book + ")", LOST_UNKNOWN, x.beside(0, book, 9, 2));
            DUE.due("beside(1, " + book + "), of KIND 0", LOST_UNKNOWN, x.beside(1, book, 1, 0));
        }
        DUE.due("beside, OUTSIDE ahead of STATE", LOST_OUTSIDE, x.beside(1, 0, 9, 0));
        DUE.due("the last BOOKS", 0, x.shorter(5, 5, 8, 999));
    }
}
