import java.util.Random;

/** Runs of calls from told seeds, up to 512 on an object, asked of KingsInches and of Plain. */
public final class AgreementTest {
    private static final int RUNS = 60;
    private static final int CALLS = 400;
    private static final int LAST_CALL = 512;

    /** Each call with the least and the most of its numbers; what is dear to ask is asked less often. */
    private enum Call {
        MEN("men", 40, 0, 5, 0, 63, 0, 999), SET("set", 14, 0, 5, 0, 2, 0, 99), WAY("way", 14, 0, 4, 0, 10),
        SAY("say", 4, 33, 126), WIPE("wipe", 1), FAULT("fault", 8, 0, 1), TAKE("take", 4, 0, 1),
        LINE("line", 6, 0, 5), HUMP("hump", 4, 0, 63, 1, 8, 0, 63),
        UPPER("upper", 8, 0, 63, 1, 8, 0, 63, 0, 1, 0, 1), MISFIT("misfit", 12, 0, 5, 0, 63, 1, 8, 0, 63),
        FIT("fit", 8, 0, 5, 1, 8, 0, 1), SPAN("span", 8, 0, 5, 1, 8, 0, 999, 0, 1),
        FOUND("found", 2, 0, 5, 1, 8, 0, 2), WRITTEN("written", 14, 0, 63, 0, 63, 0, 63, 0, 1),
        BACK("back", 8, 0, 63, 1, 8, 0, 63, 0, 63, 0, 63, 0, 1), PILE("pile", 4, 0, 5, 0, 1),
        GROWN("grown", 8, 0, 5, 0, 1, 0, 1), RIGHT("right", 6, 0, 5, 1, 8, 0, 1),
        MIX("mix", 8, 0, 63, 0, 63, 1, 8, 0, 63, 0, 100, 0, 1),
        FALL("fall", 8, 0, 63, 0, 63, 1, 8, 0, 63, 0, 100, 0, 100, 0, 1),
        ALONE("alone", 2, 0, 63, 0, 63, 1, 8, 0, 63, 0, 100100, 0, 100100, 0, 1, 0, 1),
        MEAN("mean", 6, 0, 5, 0, 1), MODE("mode", 6, 0, 5), ABOUT("about", 8, 0, 5, 0, 8, 0, 1, 0, 1),
        BESIDE("beside", 8, 0, 5, 0, 5, 1, 8, 0, 1), SHORTER("shorter", 6, 0, 5, 0, 5, 1, 8, 0, 999),
        MAKE("make", 8, 0, 5, 0, 9999, 0, 63, 1, 8, 1, 200),
        OFF("off", 2, 0, 5, 0, 9999, 0, 63, 1, 8, 1, 200, 1, 8, 0, 3),
        BEST("best", 1, 0, 5, 0, 9999, 0, 63, 1, 8, 1, 200, 1, 8), IMAGE("image", 2, 0, 1),
        RESTORE("restore", 2, 0, 1), TOLD("told", 8, 0, 45);

        final String name;
        final int often;
        final int[] bounds;

        Call(String name, int often, int... bounds) {
            this.name = name;
            this.often = often;
            this.bounds = bounds;
        }
    }

    private static final Due DUE = new Due();
    private static final Call[] CALLS_OF_ALL = Call.values();
    private static final String[] RULE_PIECES = {"y", "a", "<", ">", "=", "&", ":", ";", "*", "1", "2", "30",
        "y<50", "a>20", "*:20", "*:32;", "y=7&a<18:30;"};
    private static final String[] GROWTH_PIECES = {"14", "15", ":", ";", "3", "13:2;", "17:4;", "22:1", "16:9"};

    private final Random random;
    private final KingsInches asked = new KingsInches();
    private final Plain plain = new Plain();
    private final int run;
    private int calls;

    private AgreementTest(int run) {
        this.run = run;
        this.random = new Random(run);
    }

    public static void main(String[] args) {
        int runs = args.length > 0 ? Integer.parseInt(args[0]) : RUNS;
        for (int run = 0; run < runs; run++) {
            new AgreementTest(run).go();
        }
        DUE.end();
    }

    private void go() {
        while (calls < CALLS) {
            int kind = random.nextInt(40);
            if (kind == 0) {
                sayText(0, random.nextBoolean() ? goodRule() : pieces(RULE_PIECES));
            } else if (kind == 1) {
                sayText(1, random.nextBoolean() ? goodGrowth() : pieces(GROWTH_PIECES));
            } else if (kind == 2) {
                crowd();
            } else {
                ask(randomCall());
            }
        }
        for (int what = 0; what <= 45 && calls < LAST_CALL; what++) {
            ask(Call.TOLD, what);
        }
        int book = random.nextInt(6);
        for (int height = 0; height < 64 && calls < LAST_CALL; height++) {
            ask(Call.MEN, book, height, 0);
        }
    }

    private Call randomCall() {
        int all = 0;
        for (Call c : CALLS_OF_ALL) {
            all += c.often;
        }
        int left = random.nextInt(all);
        for (Call c : CALLS_OF_ALL) {
            left -= c.often;
            if (left < 0) {
                return c;
            }
        }
        throw new IllegalStateException();
    }

    private void ask(Call call) {
        int[] numbers = new int[call.bounds.length / 2];
        for (int i = 0; i < numbers.length; i++) {
            numbers[i] = number(call.bounds[2 * i], call.bounds[2 * i + 1]);
        }
        if (call != Call.MEN && call != Call.TOLD && random.nextInt(10) != 0) {
            comeNear(call, numbers);
        }
        ask(call, numbers);
    }

    /** HEIGHTS near each other, shares in order, small SLACK, KINDS that there are ask for more. */
    private void comeNear(Call call, int[] numbers) {
        int near = -1;
        for (int i = 0; i < numbers.length; i++) {
            if (call.bounds[2 * i] == 0 && call.bounds[2 * i + 1] == 63) {
                numbers[i] = near < 0 ? numbers[i] : near + random.nextInt(9) - 4;
                near = numbers[i];
            }
            if (call.bounds[2 * i + 1] == 100100) {
                int least = random.nextInt(101);
                numbers[i] = 1000 * least + least + random.nextInt(101 - least);
            }
            if (call.bounds[2 * i + 1] == 999 && random.nextBoolean()) {
                numbers[i] = random.nextInt(20);
            }
        }
        if (call == Call.SET && numbers[1] == 1) {
            numbers[2] = 13 + random.nextInt(12);
        } else if (call == Call.SET && numbers[1] == 2) {
            numbers[2] = random.nextInt(3);
        }
    }

    private int number(int least, int most) {
        switch (random.nextInt(60)) {
            case 0:
                return least - 1;
            case 1:
                return most + 1;
            case 2:
                return random.nextInt();
            case 3: case 4: case 5:
                return least;
            case 6: case 7: case 8:
                return most;
            default:
                return least + random.nextInt(most - least + 1);
        }
    }

    private void sayText(int how, String text) {
        ask(Call.WIPE);
        for (int i = 0; i < text.length(); i++) {
            ask(Call.SAY, text.charAt(i));
        }
        ask(Call.FAULT, how);
        ask(Call.TAKE, how);
    }

    private String pieces(String[] from) {
        StringBuilder text = new StringBuilder();
        for (int i = random.nextInt(12); i >= 0; i--) {
            text.append(from[random.nextInt(from.length)]);
        }
        return text.toString();
    }

    private String goodRule() {
        StringBuilder text = new StringBuilder();
        for (int cases = 1 + random.nextInt(4); cases > 0; cases--) {
            if (random.nextInt(4) == 0) {
                text.append('*');
            } else {
                for (int tests = 1 + random.nextInt(2); tests > 0; tests--) {
                    text.append("ya".charAt(random.nextInt(2))).append("<>=".charAt(random.nextInt(3)));
                    text.append(random.nextInt(60)).append(tests > 1 ? "&" : "");
                }
            }
            text.append(':').append(random.nextInt(100)).append(cases > 1 ? ";" : "");
        }
        return text.toString();
    }

    private String goodGrowth() {
        StringBuilder text = new StringBuilder();
        for (int items = 1 + random.nextInt(10); items > 0; items--) {
            text.append(11 + random.nextInt(14)).append(':').append(random.nextInt(10));
            text.append(items > 1 ? ";" : "");
        }
        return text.toString();
    }

    /** MEN about some HEIGHT, as BOOKS have them. */
    private void crowd() {
        int book = random.nextInt(6);
        int middle = random.nextInt(64);
        for (int i = 0; i < 8; i++) {
            ask(Call.MEN, book, Math.max(0, Math.min(63, middle + random.nextInt(11) - 5)), random.nextInt(60));
        }
    }

    private void ask(Call call, int... numbers) {
        String text = "run " + run + ", call " + calls + ": " + Calls.text(call.name, numbers);
        calls++;
        DUE.due(text, Calls.ask(plain, call.name, numbers), Calls.ask(asked, call.name, numbers));
    }
}
