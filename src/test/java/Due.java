/** Counts the answers of one test and prints those that are not the ones that are due. */
final class Due {
    private static boolean stopping;

    private int asked;
    private int wrong;
    private String sentence = "";

    /**
     * For a class that is broken on purpose: the first wrong answer ends its test, for what such a
     * class does later may take long.
     */
    static void stopAtTheFirst() {
        stopping = true;
    }

    /** What is asked from now on stands for this sentence of the document. */
    void sentence(String words) {
        sentence = "\"" + words + "\": ";
    }

    void due(String call, long want, long got) {
        asked++;
        if (got != want) {
            wrong++;
            String told = sentence + call + " answered " + got + ", due is " + want;
            if (stopping) {
                throw new IllegalStateException(told);
            }
            System.out.println(told);
        }
    }

    /** A fraction, by the answers for part 0 and part 1. */
    void due(String call, long upper, long lower, long gotUpper, long gotLower) {
        due(call + " upper", upper, gotUpper);
        due(call + " lower", lower, gotLower);
    }

    void holds(String what, boolean so) {
        due(what, 1, so ? 1 : 0);
    }

    void end() {
        System.out.println(asked + " answers, " + wrong + " not as due");
        if (wrong != 0 || asked == 0) {
            System.exit(1);
        }
    }

    /** Says a text sign by sign. */
    static void say(KingsInches x, String text) {
        for (int i = 0; i < text.length(); i++) {
            x.say(text.charAt(i));
        }
    }

    static int take(KingsInches x, int how, String text) {
        x.wipe();
        say(x, text);
        return x.take(how);
    }

    /** A new object whose RULE is this text. */
    static KingsInches withRule(String rule) {
        KingsInches x = new KingsInches();
        take(x, 0, rule);
        return x;
    }

    /** MEN of a HEIGHT, left as they are. */
    static int menAt(KingsInches x, int book, int height) {
        int n = x.men(book, height, 0);
        x.men(book, height, n);
        return n;
    }

    /** Every HEIGHT of a BOOK with 999 MEN. */
    static KingsInches withFullBook(int book) {
        KingsInches x = new KingsInches();
        for (int height = 0; height < 64; height++) {
            x.men(book, height, 999);
        }
        return x;
    }
}
