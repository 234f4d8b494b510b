import java.util.function.Consumer;

/**
 * STATE, NO and FULL: that they are answered, that UNKNOWN and OUTSIDE go ahead of them, and that
 * such a call changes nothing.
 */
public final class LaterRefusalsTest {
    private static final Due DUE = new Due();
    private static final Consumer<KingsInches> FULL = Full::fill;

    public static void main(String[] args) {
        fullPad();
        faults();
        noParts();
        nobodyAtTheLine();
        otherKinds();
        notKept();
        DUE.end();
    }

    private static KingsInches make(Consumer<KingsInches> first) {
        KingsInches x = new KingsInches();
        first.accept(x);
        return x;
    }

    /** The row's numbers are all as told, and refused; with one that is not, that is said. */
    private static void refused(int refusal, Consumer<KingsInches> first, Row row) {
        refused(refusal, first, row, row.numbers());
        for (int place = 0; place < row.numbers().length; place++) {
            for (int v : row.outside(place)) {
                refused(row.refusal(place), first, row, row.with(place, v));
            }
        }
    }

    private static void refused(int refusal, Consumer<KingsInches> first, Row row, int[] numbers) {
        String text = Calls.text(row.call(), numbers);
        for (int image = Full.AS_IT_IS; image <= 1; image++) {
            KingsInches x = make(first);
            DUE.due(text, row.told(refusal), Calls.ask(x, row.call(), numbers));
            DUE.holds(text + " changes nothing, seen from " + image,
                    Full.shown(x, image).equals(Full.shown(make(first), image)));
        }
    }

    static void fullPad() {
        DUE.sentence("Promise 5: OUTSIDE; FULL");
        Consumer<KingsInches> sixty = x -> Due.say(x, "*:1;".repeat(15));
        refused(KingsInches.FULL, sixty, Row.whole("say", Row.of(33), Row.of(33, 126)));
        refused(KingsInches.FULL, sixty, Row.whole("say", Row.of(126), Row.of(33, 126)));
        KingsInches x = make(y -> Due.say(y, "*".repeat(59)));
        DUE.due("the 60th sign", 60, x.say(33));
        DUE.due("the 61st sign", KingsInches.FULL, x.say(33));
    }

    static void faults() {
        DUE.sentence("Promise 8: OUTSIDE; NO: there is a FAULT");
        Row asRule = Row.whole("take", Row.of(0), Row.EITHER);
        Row asGrowth = Row.whole("take", Row.of(1), Row.EITHER);
        refused(KingsInches.NO, FULL, asGrowth);
        refused(KingsInches.NO, FULL.andThen(x -> x.say(':')), asRule);
        refused(KingsInches.NO, FULL.andThen(KingsInches::wipe), asRule);
        refused(KingsInches.NO, FULL.andThen(KingsInches::wipe), asGrowth);
        refused(KingsInches.NO, x -> { }, asRule);
        refused(KingsInches.NO, x -> Due.say(x, "14:1;"), asGrowth);
    }

    static void noParts() {
        DUE.sentence("Promise 12: UNKNOWN; OUTSIDE; NO");
        Consumer<KingsInches> noLeak = FULL.andThen(x -> x.way(0, 0));
        refused(KingsInches.NO, noLeak,
                Row.whole("misfit", Row.of(0, 30, 3, 34), Row.BOOK, Row.HEIGHT, Row.WIDTH, Row.HEIGHT));
        refused(KingsInches.NO, noLeak,
                Row.whole("misfit", Row.of(4, 0, 1, 63), Row.BOOK, Row.HEIGHT, Row.WIDTH, Row.HEIGHT));
    }

    static void nobodyAtTheLine() {
        DUE.sentence("Promise 21: OUTSIDE; NO: nobody is of the line or more");
        refused(KingsInches.NO, FULL, Row.fraction("mix", Row.of(30, 34, 3, 34, 100, 0),
                Row.HEIGHT, Row.HEIGHT, Row.WIDTH, Row.HEIGHT, Row.SHARE, Row.EITHER));
        refused(KingsInches.NO, FULL, Row.fraction("mix", Row.of(34, 30, 3, 34, 0, 1),
                Row.HEIGHT, Row.HEIGHT, Row.WIDTH, Row.HEIGHT, Row.SHARE, Row.EITHER));
        DUE.sentence("Promise 22: OUTSIDE; NO: of either");
        refused(KingsInches.NO, FULL, Row.fraction("fall", Row.of(30, 34, 3, 34, 100, 99, 0),
                Row.HEIGHT, Row.HEIGHT, Row.WIDTH, Row.HEIGHT, Row.SHARE, Row.SHARE, Row.EITHER));
        refused(KingsInches.NO, FULL, Row.fraction("fall", Row.of(30, 34, 3, 34, 99, 100, 1),
                Row.HEIGHT, Row.HEIGHT, Row.WIDTH, Row.HEIGHT, Row.SHARE, Row.SHARE, Row.EITHER));
        DUE.sentence("Promise 23: OUTSIDE; NO: some MIX is not");
        refused(KingsInches.NO, FULL, Row.fraction("alone", Row.of(30, 34, 3, 34, 99100, 5005, 0, 0),
                Row.HEIGHT, Row.HEIGHT, Row.WIDTH, Row.HEIGHT, Row.SHARES, Row.SHARES, Row.EITHER, Row.EITHER));
        refused(KingsInches.NO, FULL, Row.fraction("alone", Row.of(30, 34, 3, 34, 5005, 100100, 1, 1),
                Row.HEIGHT, Row.HEIGHT, Row.WIDTH, Row.HEIGHT, Row.SHARES, Row.SHARES, Row.EITHER, Row.EITHER));
    }

    private static Row about(int book) {
        return Row.fraction("about", Row.of(book, 3, 1, 1), Row.BOOK, Row.of(0, 8), Row.EITHER, Row.EITHER);
    }

    private static Row beside(int book) {
        return Row.fraction("beside", Row.of(book, 0, 3, 1), Row.BOOK, Row.BOOK, Row.WIDTH, Row.EITHER);
    }

    /** Of a full object BOOK 1 is of KIND 1, BOOK 2 of KIND 2, others of KIND 0. */
    static void otherKinds() {
        DUE.sentence("Promise 26: UNKNOWN, OUTSIDE, STATE: its KIND is not 2");
        refused(KingsInches.STATE, FULL, about(0));
        refused(KingsInches.STATE, FULL, about(1));
        DUE.sentence("Promise 27: UNKNOWN, OUTSIDE, STATE: the first one's KIND is not 1");
        refused(KingsInches.STATE, FULL, beside(0));
        refused(KingsInches.STATE, FULL, beside(2));
        DUE.sentence("Promise 27: STATE: or it has no MEN");
        refused(KingsInches.STATE, FULL.andThen(x -> x.men(1, 30, 0)), beside(1));
        DUE.sentence("Promise 27: it is the first one's KIND and MEN, not the other one's");
        KingsInches x = Full.make();
        DUE.holds("beside one of KIND 2", x.beside(1, 2, 3, 1) > 0);
        DUE.holds("beside one of KIND 0", x.beside(1, 0, 3, 1) > 0);
        x.men(0, 20, 0);
        x.men(0, 33, 0);
        DUE.holds("beside one without MEN", x.beside(1, 0, 3, 1) > 0);
    }

    static void notKept() {
        DUE.sentence("Promise 33: OUTSIDE; STATE: it was not");
        refused(KingsInches.STATE, x -> { }, Row.whole("restore", Row.of(0), Row.EITHER));
        refused(KingsInches.STATE, x -> { }, Row.whole("restore", Row.of(1), Row.EITHER));
        Consumer<KingsInches> some = x -> x.men(3, 5, 8);
        refused(KingsInches.STATE, some.andThen(x -> x.image(0)), Row.whole("restore", Row.of(1), Row.EITHER));
        refused(KingsInches.STATE, some.andThen(x -> x.image(1)), Row.whole("restore", Row.of(0), Row.EITHER));
    }
}
