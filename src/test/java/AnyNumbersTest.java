import java.lang.reflect.Method;
import java.lang.reflect.Modifier;
import java.util.Arrays;
import java.util.Comparator;
import java.util.List;
import java.util.Random;
import java.util.function.Supplier;

/**
 * LANGUAGE.md, rule 7: "No call may ever throw or fail to end, for any arguments in any state".
 * Every call with numbers from the ends of int, from about 0 and from about the document's bounds,
 * of objects in some states; that a call throws ends the test, and its answer is one that it may give.
 */
public final class AnyNumbersTest {
    private static final int TIMES = 1500, CALLS = 300;
    private static final int[] NUMBERS = {Integer.MIN_VALUE, Integer.MIN_VALUE + 1, -65537, -1000, -64, -9, -8, -5, -4,
        -3, -2, -1, 0, 1, 2, 3, 4, 5, 6, 7, 8, 9, 10, 14, 33, 40, 45, 46, 62, 63, 64, 65, 99, 100, 101, 126, 200, 201,
        999, 1000, 9999, 10000, 50050, 65536, 65537, 100100, 100101, 1 << 16, 1 << 30, Integer.MAX_VALUE - 1,
        Integer.MAX_VALUE};
    private static final List<Supplier<KingsInches>> STATES = List.of(KingsInches::new, Full::make,
        () -> Due.withFullBook(0), AnyNumbersTest::withEverythingAtItsMost);
    private static final Due DUE = new Due();

    public static void main(String[] args) {
        Random random = new Random(9);
        Method[] methods = KingsInches.class.getDeclaredMethods();
        Arrays.sort(methods, Comparator.comparing(Method::getName));
        for (Method m : methods) {
            if (Modifier.isPublic(m.getModifiers())) {
                for (Supplier<KingsInches> state : STATES) {
                    ask(m, state, random);
                }
            }
        }
        DUE.end();
    }

    private static void ask(Method m, Supplier<KingsInches> state, Random random) {
        KingsInches x = state.get();
        for (int time = 0; time < TIMES; time++) {
            if (time % CALLS == CALLS - 1) {
                x = state.get();
            }
            int[] numbers = new int[m.getParameterCount()];
            for (int i = 0; i < numbers.length; i++) {
                numbers[i] = NUMBERS[random.nextInt(NUMBERS.length)];
            }
            long got = Calls.ask(x, m.getName(), numbers);
            DUE.holds(Calls.text(m.getName(), numbers) + ", " + got + " may be answered",
                    mayBe(got, m.getReturnType() == long.class));
        }
    }

    /** A whole number, NONE or a refusal; or a fraction's part, or LOST and a refusal. */
    private static boolean mayBe(long got, boolean fraction) {
        if (fraction && got < -100_000_000_000_000_000L) {
            return got <= Row.LOST - 1 && got >= Row.LOST - 5;
        }
        return fraction || got >= -6 && got <= 2 * 64 * 999;
    }

    private static KingsInches withEverythingAtItsMost() {
        KingsInches x = Due.withRule("y=9:1;".repeat(9) + "*:99");
        Due.take(x, 1, "9:9;".repeat(14) + "14:9");
        int[] most = {9, 9, 4, 10, 10};
        for (int which = 0; which < most.length; which++) {
            x.way(which, most[which]);
        }
        Due.say(x, "*".repeat(60));
        return x;
    }
}
