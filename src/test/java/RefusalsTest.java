import java.lang.reflect.Method;
import java.lang.reflect.Modifier;
import java.util.Set;
import java.util.TreeSet;

/**
 * Every number of every call on both sides of both its bounds; that UNKNOWN goes ahead of OUTSIDE;
 * and that refused calls, and calls that only ask, change nothing.
 */
public final class RefusalsTest {
    private static final Due DUE = new Due();
    private static final Set<String> CHANGING = Set.of("men", "set", "way", "say", "take", "make", "image", "restore");

    /** Calls that a full object takes. */
    private static final Row[] ROWS = {
        Row.whole("men", Row.of(0, 20, 5), Row.BOOK, Row.HEIGHT, Row.of(0, 999)),
        Row.whole("set", Row.of(0, 0, 1), Row.BOOK, Row.of(0, 2), Row.of(0, 99)),
        Row.whole("set", Row.of(0, 1, 20), Row.BOOK, Row.ELSEWHERE, Row.of(14, 40)),
        Row.whole("set", Row.of(0, 2, 1), Row.BOOK, Row.ELSEWHERE, Row.of(0, 2)),
        Row.whole("way", Row.of(0, 1), Row.of(0, 4), Row.of(0, 9)),
        Row.whole("way", Row.of(1, 1), Row.ELSEWHERE, Row.of(0, 9)),
        Row.whole("way", Row.of(2, 1), Row.ELSEWHERE, Row.of(0, 4)),
        Row.whole("way", Row.of(3, 1), Row.ELSEWHERE, Row.of(0, 10)),
        Row.whole("way", Row.of(4, 1), Row.ELSEWHERE, Row.of(0, 10)),
        Row.whole("say", Row.of(65), Row.of(33, 126)),
        Row.whole("fault", Row.of(0), Row.EITHER),
        Row.whole("take", Row.of(0), Row.EITHER),
        Row.whole("line", Row.of(0), Row.BOOK),
        Row.whole("hump", Row.of(30, 3, 30), Row.HEIGHT, Row.WIDTH, Row.HEIGHT),
        Row.fraction("upper", Row.of(30, 3, 30, 0, 0), Row.HEIGHT, Row.WIDTH, Row.HEIGHT, Row.EITHER, Row.EITHER),
        Row.whole("misfit", Row.of(0, 30, 3, 30), Row.BOOK, Row.HEIGHT, Row.WIDTH, Row.HEIGHT),
        Row.whole("fit", Row.of(0, 3, 0), Row.BOOK, Row.WIDTH, Row.EITHER),
        Row.whole("span", Row.of(0, 3, 5, 0), Row.BOOK, Row.WIDTH, Row.SLACK, Row.EITHER),
        Row.whole("found", Row.of(0, 3, 0), Row.BOOK, Row.WIDTH, Row.of(0, 2)),
        Row.fraction("written", Row.of(30, 29, 30, 0), Row.HEIGHT, Row.HEIGHT, Row.HEIGHT, Row.EITHER),
        Row.fraction("back", Row.of(30, 3, 30, 30, 29, 0),
                Row.HEIGHT, Row.WIDTH, Row.HEIGHT, Row.HEIGHT, Row.HEIGHT, Row.EITHER),
        Row.fraction("pile", Row.of(0, 0), Row.BOOK, Row.EITHER),
        Row.fraction("grown", Row.of(0, 0, 0), Row.BOOK, Row.EITHER, Row.EITHER),
        Row.fraction("right", Row.of(0, 3, 0), Row.BOOK, Row.WIDTH, Row.EITHER),
        Row.fraction("mix", Row.of(30, 34, 3, 32, 40, 0),
                Row.HEIGHT, Row.HEIGHT, Row.WIDTH, Row.HEIGHT, Row.SHARE, Row.EITHER),
        Row.fraction("fall", Row.of(30, 34, 3, 32, 20, 80, 0),
                Row.HEIGHT, Row.HEIGHT, Row.WIDTH, Row.HEIGHT, Row.SHARE, Row.SHARE, Row.EITHER),
        Row.fraction("alone", Row.of(30, 34, 3, 32, 20040, 60090, 0, 0),
                Row.HEIGHT, Row.HEIGHT, Row.WIDTH, Row.HEIGHT, Row.SHARES, Row.SHARES, Row.EITHER, Row.EITHER),
        Row.fraction("mean", Row.of(0, 0), Row.BOOK, Row.EITHER),
        Row.whole("mode", Row.of(0), Row.BOOK),
        Row.fraction("about", Row.of(2, 3, 0, 0), Row.BOOK, Row.of(0, 8), Row.EITHER, Row.EITHER),
        Row.fraction("beside", Row.of(1, 0, 3, 0), Row.BOOK, Row.BOOK, Row.WIDTH, Row.EITHER),
        Row.whole("shorter", Row.of(0, 1, 3, 5), Row.BOOK, Row.BOOK, Row.WIDTH, Row.SLACK),
        Row.whole("make", Row.of(0, 7, 30, 3, 50), Row.BOOK, Row.SEED, Row.HEIGHT, Row.WIDTH, Row.MADE),
        Row.whole("off", Row.of(0, 7, 30, 3, 20, 2, 0),
                Row.BOOK, Row.SEED, Row.HEIGHT, Row.WIDTH, Row.MADE, Row.WORLDS, Row.of(0, 3)),
        Row.whole("best", Row.of(0, 7, 30, 3, 20, 2),
                Row.BOOK, Row.SEED, Row.HEIGHT, Row.WIDTH, Row.MADE, Row.WORLDS),
        Row.whole("image", Row.of(0), Row.EITHER),
        Row.whole("restore", Row.of(0), Row.EITHER),
        Row.whole("told", Row.of(0), Row.of(0, 45)),
    };

    private static final String[] SHOWN = {
        Full.shown(Full.make(), Full.AS_IT_IS), Full.shown(Full.make(), 0), Full.shown(Full.make(), 1)};

    public static void main(String[] args) {
        DUE.holds("what is now and both IMAGES look different", Set.of(SHOWN[0], SHOWN[1], SHOWN[2]).size() == 3);
        for (Row row : ROWS) {
            refusalsOf(row);
        }
        everyCall();
        DUE.end();
    }

    /** All rows of one call. */
    static void refusalsOf(String call) {
        for (Row row : ROWS) {
            if (row.call().equals(call)) {
                refusalsOf(row);
            }
        }
    }

    private static void refusalsOf(Row row) {
        taken(row, row.numbers());
        for (int place = 0; place < row.numbers().length; place++) {
            if (row.tries(place)) {
                bothSides(row, place);
                withAnother(row, place);
            }
        }
    }

    private static void bothSides(Row row, int place) {
        DUE.sentence("Terms: the least and the most that are told are taken");
        taken(row, row.with(place, row.bounds()[place][0]));
        taken(row, row.with(place, row.bounds()[place][1]));
        DUE.sentence("Terms: UNKNOWN (there is no such BOOK), OUTSIDE (another number is not as told)");
        for (int v : row.outside(place)) {
            refused(row, row.refusal(place), row.with(place, v));
        }
    }

    /** The answer is Plain's, and no refusal of a number. */
    private static void taken(Row row, int[] numbers) {
        String text = Calls.text(row.call(), numbers);
        long got = Calls.ask(Full.make(), row.call(), numbers);
        DUE.due(text, Calls.ask(Full.makePlain(), row.call(), numbers), got);
        DUE.holds(text + " is taken", got != row.told(KingsInches.UNKNOWN) && got != row.told(KingsInches.OUTSIDE));
        if (!CHANGING.contains(row.call())) {
            changesNothing(row.call(), numbers);
        }
    }

    private static void refused(Row row, int refusal, int[] numbers) {
        DUE.due(Calls.text(row.call(), numbers), row.told(refusal), Calls.ask(Full.make(), row.call(), numbers));
        changesNothing(row.call(), numbers);
    }

    private static void changesNothing(String call, int[] numbers) {
        for (int image = Full.AS_IT_IS; image <= 1; image++) {
            KingsInches x = Full.make();
            Calls.ask(x, call, numbers);
            DUE.holds(Calls.text(call, numbers) + " changes nothing, seen from " + image,
                    Full.shown(x, image).equals(SHOWN[image + 1]));
        }
    }

    /** Two numbers outside at once: UNKNOWN goes first, wherever the BOOK stands among them. */
    private static void withAnother(Row row, int place) {
        DUE.sentence("Terms: the first of these that fits: UNKNOWN, OUTSIDE");
        for (int other = place + 1; other < row.numbers().length; other++) {
            if (row.tries(other)) {
                int refusal = Math.max(row.refusal(place), row.refusal(other));
                for (int v : row.outside(place)) {
                    int[] numbers = row.with(place, v);
                    numbers[other] = row.bounds()[other][0] - 1;
                    refused(row, refusal, numbers);
                    numbers[other] = row.bounds()[other][1] + 1;
                    refused(row, refusal, numbers);
                }
            }
        }
    }

    /** wipe() has no number and is never refused; each other call has a row, with bounds for all numbers. */
    private static void everyCall() {
        Set<String> calls = new TreeSet<>();
        for (Row row : ROWS) {
            calls.add(row.call());
            DUE.due(row.call() + ": bounds", row.numbers().length, row.bounds().length);
        }
        for (Method m : KingsInches.class.getDeclaredMethods()) {
            boolean hasNumbers = Modifier.isPublic(m.getModifiers()) && m.getParameterCount() > 0;
            DUE.holds(m.getName() + " has a row", !hasNumbers || calls.contains(m.getName()));
        }
    }
}
