/**
 * An object in which everything is set, signs and both IMAGES too, and all that later calls show
 * of it. Making one takes 51 calls and looking at it less than 440: together below 512.
 */
final class Full {
    static final int AS_IT_IS = -1;

    private Full() {
    }

    /** Asks everything of KingsInches and of Plain alike, so both can be made. */
    static void fill(Object x) {
        for (int which = 0; which < 5; which++) {
            Calls.ask(x, "way", which, which == 2 ? 2 : which + 3);
        }
        take(x, 0, "y<9:20;*:30");
        take(x, 1, "14:3;22:1");
        int[][] men = {{0, 20, 7}, {0, 33, 2}, {1, 30, 5}, {2, 8, 9}, {5, 63, 999}, {3, 0, 1}};
        for (int[] m : men) {
            Calls.ask(x, "men", m);
        }
        int[][] entries = {{1, 2, 1}, {2, 2, 2}, {0, 0, 50}, {3, 1, 14}};
        for (int[] e : entries) {
            Calls.ask(x, "set", e);
        }
        Calls.ask(x, "image", 0);
        Calls.ask(x, "men", 4, 40, 3);
        Calls.ask(x, "way", 0, 1);
        Calls.ask(x, "set", 0, 0, 8);
        Calls.ask(x, "image", 1);
        Calls.ask(x, "men", 4, 41, 1);
        Calls.ask(x, "set", 5, 1, 30);
        say(x, "a=14:11");
    }

    private static void take(Object x, int how, String text) {
        say(x, text);
        Calls.ask(x, "take", how);
    }

    private static void say(Object x, String text) {
        for (int i = 0; i < text.length(); i++) {
            Calls.ask(x, "say", text.charAt(i));
        }
    }

    static KingsInches make() {
        KingsInches x = new KingsInches();
        fill(x);
        return x;
    }

    static Plain makePlain() {
        Plain x = new Plain();
        fill(x);
        return x;
    }

    /** What is told, the signs, every HEIGHT of every BOOK; of what is now or of an IMAGE. */
    static String shown(KingsInches x, int image) {
        StringBuilder all = new StringBuilder();
        if (image != AS_IT_IS) {
            all.append(x.restore(image)).append(' ');
        }
        for (int what = 0; what <= 7; what++) {
            all.append(x.told(what)).append(' ');
        }
        for (int book = 0; book < 6; book++) {
            all.append(x.told(20 + book)).append(' ').append(x.told(30 + book)).append(' ');
            all.append(x.told(40 + book)).append(' ').append(x.line(book)).append(' ');
            all.append(x.told(10 + book)).append(' ');
        }
        all.append(x.grown(3, 1, 0)).append(' ').append(x.fault(0)).append(' ').append(x.fault(1)).append(' ');
        all.append(x.take(0)).append(' ').append(x.line(3)).append(' ');
        for (int book = 0; book < 6; book++) {
            for (int height = 0; height < 64; height++) {
                all.append(x.men(book, height, 0)).append(' ');
            }
        }
        return all.toString();
    }
}
