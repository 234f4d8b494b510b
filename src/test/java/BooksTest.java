/** Promises 1 to 9: a new object, books, texts. */
public final class BooksTest {
    private static final Due DUE = new Due();

    public static void main(String[] args) {
        newObject();
        men();
        set();
        way();
        sayAndWipe();
        faultOfRule();
        faultOfGrowth();
        take();
        line();
        DUE.end();
    }

    private static void newObject() {
        KingsInches x = new KingsInches();
        for (int what = 0; what <= 7; what++) {
            DUE.due("new: told(" + what + ")", 0, x.told(what));
        }
        for (int book = 0; book < 6; book++) {
            DUE.due("new: MEN", 0, x.told(10 + book));
            DUE.due("new: YEAR", 0, x.told(20 + book));
            DUE.due("new: AGE", 25, x.told(30 + book));
            DUE.due("new: KIND", 0, x.told(40 + book));
            DUE.due("new: LINE", 0, x.line(book));
            DUE.due("new: MODE", KingsInches.NONE, x.mode(book));
        }
        DUE.due("new: wipe()", 0, x.wipe());
        DUE.due("new: GROWN", 0, x.grown(0, 0, 0));
        DUE.due("new: restore(0)", KingsInches.STATE, x.restore(0));
        DUE.due("new: restore(1)", KingsInches.STATE, x.restore(1));
        x.men(0, 5, 7);
        DUE.due("a second new object", 0, new KingsInches().men(0, 5, 1));
    }

    private static void men() {
        KingsInches x = new KingsInches();
        DUE.due("men(0, 0, 999)", 0, x.men(0, 0, 999));
        DUE.due("men(0, 63, 1)", 0, x.men(0, 63, 1));
        DUE.due("men(5, 0, 2)", 0, x.men(5, 0, 2));
        DUE.due("men(0, 0, 3) again", 999, x.men(0, 0, 3));
        DUE.due("men(0, 0, 0)", 3, x.men(0, 0, 0));
        DUE.due("men(0, 63, 2)", 1, x.men(0, 63, 2));
        DUE.due("MEN of 0", 2, x.told(10));
        DUE.due("MEN of 5", 2, x.told(15));
        DUE.due("men(-1, 0, 0)", -1, x.men(-1, 0, 0));
        DUE.due("men(6, 64, 1000)", -1, x.men(6, 64, 1000));
        DUE.due("men(0, -1, 0)", -2, x.men(0, -1, 0));
        DUE.due("men(0, 64, 0)", -2, x.men(0, 64, 0));
        DUE.due("men(0, 0, -1)", -2, x.men(0, 0, -1));
        DUE.due("men(0, 0, 1000)", -2, x.men(0, 0, 1000));
        DUE.due("men(MAX, 0, 0)", -1, x.men(Integer.MAX_VALUE, 0, 0));
        DUE.due("men(0, MIN, 0)", -2, x.men(0, Integer.MIN_VALUE, 0));
        DUE.due("refused: MEN of 0", 2, x.told(10));
        DUE.due("refused: men(0, 0, ..)", 0, x.men(0, 0, 0));
    }

    private static void set() {
        KingsInches x = new KingsInches();
        DUE.due("set(2, 0, 99)", 0, x.set(2, 0, 99));
        DUE.due("set(2, 0, 0)", 99, x.set(2, 0, 0));
        DUE.due("set(2, 1, 14)", 25, x.set(2, 1, 14));
        DUE.due("set(2, 1, 40)", 14, x.set(2, 1, 40));
        DUE.due("set(2, 2, 2)", 0, x.set(2, 2, 2));
        DUE.due("set(2, 2, 1)", 2, x.set(2, 2, 1));
        DUE.due("set(3, 2, 1)", 0, x.set(3, 2, 1));
        DUE.due("set(3, 2, 0)", 1, x.set(3, 2, 0));
        DUE.due("set(3, 0, 7)", 0, x.set(3, 0, 7));
        DUE.due("KIND 0 again", 0, x.told(43));
        DUE.due("set(6, 3, 100)", -1, x.set(6, 3, 100));
        DUE.due("set(-1, 0, 0)", -1, x.set(-1, 0, 0));
        DUE.due("set(2, 3, 0)", -2, x.set(2, 3, 0));
        DUE.due("set(2, -1, 0)", -2, x.set(2, -1, 0));
        DUE.due("set(2, 0, 100)", -2, x.set(2, 0, 100));
        DUE.due("set(2, 0, -1)", -2, x.set(2, 0, -1));
        DUE.due("set(2, 1, 13)", -2, x.set(2, 1, 13));
        DUE.due("set(2, 1, 41)", -2, x.set(2, 1, 41));
        DUE.due("set(2, 2, 3)", -2, x.set(2, 2, 3));
        DUE.due("set(2, 2, -1)", -2, x.set(2, 2, -1));
        DUE.due("YEAR stays", 0, x.told(22));
        DUE.due("AGE stays", 40, x.told(32));
        DUE.due("KIND stays", 1, x.told(42));
        DUE.due("another BOOK's AGE", 25, x.told(33));
    }

    private static void way() {
        int[] most = {9, 9, 4, 10, 10};
        KingsInches x = new KingsInches();
        for (int which = 0; which < 5; which++) {
            DUE.due("way(" + which + ", most)", 0, x.way(which, most[which]));
            DUE.due("way(" + which + ", most + 1)", -2, x.way(which, most[which] + 1));
            DUE.due("way(" + which + ", -1)", -2, x.way(which, -1));
            DUE.due("told(" + (3 + which) + ")", most[which], x.told(3 + which));
            DUE.due("way(" + which + ", 1)", most[which], x.way(which, 1));
            DUE.due("way(" + which + ", 0)", 1, x.way(which, 0));
            x.way(which, 2 + which / 3);
        }
        for (int which = 0; which < 5; which++) {
            DUE.due("each way is its own " + which, 2 + which / 3, x.told(3 + which));
        }
        DUE.due("way(5, 0)", -2, x.way(5, 0));
        DUE.due("way(-1, 0)", -2, x.way(-1, 0));
    }

    private static void sayAndWipe() {
        KingsInches x = new KingsInches();
        DUE.due("say(32)", -2, x.say(32));
        DUE.due("say(127)", -2, x.say(127));
        DUE.due("say(33)", 1, x.say(33));
        DUE.due("say(126)", 2, x.say(126));
        for (int n = 3; n <= 60; n++) {
            DUE.due("say " + n, n, x.say(49));
        }
        DUE.due("a sign too many", -4, x.say(49));
        DUE.due("a sign too many that is none", -2, x.say(32));
        DUE.due("told(0)", 60, x.told(0));
        DUE.due("wipe()", 60, x.wipe());
        DUE.due("wipe() again", 0, x.wipe());
        DUE.due("told(0) then", 0, x.told(0));
        DUE.due("say(49) then", 1, x.say(49));
    }

    private static void fault(int how, String text, int want) {
        KingsInches x = new KingsInches();
        Due.say(x, text);
        DUE.due("fault(" + how + ") of " + text, want, x.fault(how));
        DUE.due("signs stay with fault", text.length(), x.told(0));
    }

    private static void faultOfRule() {
        int none = KingsInches.NONE;
        fault(0, "", 0);
        fault(0, "*", 1);
        fault(0, "*:", 2);
        fault(0, "*:1", none);
        fault(0, "*:12", none);
        fault(0, "*:123", 4);
        fault(0, "*:12;", 5);
        fault(0, "*:1;*:2", none);
        fault(0, "*:1;;", 4);
        fault(0, ";*:1", 0);
        fault(0, "*&y<1:2", 1);
        fault(0, "y", 1);
        fault(0, "y:", 1);
        fault(0, "y<", 2);
        fault(0, "y<a", 2);
        fault(0, "y<1", 3);
        fault(0, "y>12", 4);
        fault(0, "a=123", 4);
        fault(0, "a=12&", 5);
        fault(0, "a=12&*", 5);
        fault(0, "a=1&y<2:3", none);
        fault(0, "a=1&y<2&a>3&y=44:5;*:0", none);
        fault(0, "a=12;", 4);
        fault(0, "a=1*", 3);
        fault(0, "b=1:2", 0);
        fault(0, "Y<1:2", 0);
        fault(0, "a<=1:2", 2);
        fault(0, "1:2", 0);
        fault(0, "*:x", 2);
        fault(0, "*:1&", 3);
        fault(0, "*:1:", 3);
        fault(0, "y<30&a>17:24;*:3/", 16);
        fault(0, "*:1;*:1;*:1;*:1;*:1;*:1;*:1;*:1;*:1;*:1;*:1;*:1;*:1;*:1;*:1;", 60);
        KingsInches x = new KingsInches();
        DUE.due("fault(2)", -2, x.fault(2));
        DUE.due("fault(-1)", -2, x.fault(-1));
    }

    private static void faultOfGrowth() {
        int none = KingsInches.NONE;
        fault(1, "", 0);
        fault(1, "1", 1);
        fault(1, "16", 2);
        fault(1, "160", 2);
        fault(1, "16:", 3);
        fault(1, "16:4", none);
        fault(1, "6:4", none);
        fault(1, "99:9", none);
        fault(1, "16:44", 4);
        fault(1, "16:4;", 5);
        fault(1, "16:4;17:3", none);
        fault(1, "16:4;17:3;;", 10);
        fault(1, "*:4", 0);
        fault(1, ":4", 0);
        fault(1, "16;4", 2);
        fault(1, "16:a", 3);
    }

    private static void take() {
        KingsInches x = new KingsInches();
        DUE.due("take(0) of nothing", -5, x.take(0));
        DUE.due("take(1) of nothing", -5, x.take(1));
        Due.say(x, "*:1;");
        DUE.due("take(2)", -2, x.take(2));
        DUE.due("take(-1)", -2, x.take(-1));
        DUE.due("take(0) with a FAULT", -5, x.take(0));
        DUE.due("refused: signs stay", 4, x.told(0));
        DUE.due("refused: no CASES", 0, x.told(1));
        Due.say(x, "a<20:7");
        DUE.due("take(1) of a RULE", -5, x.take(1));
        DUE.due("take(0)", 2, x.take(0));
        DUE.due("signs are gone", 0, x.told(0));
        DUE.due("CASES", 2, x.told(1));
        DUE.due("no ITEMS", 0, x.told(2));
        DUE.due("LINE by the RULE", 1, x.line(0));
        DUE.due("take(1)", 3, Due.take(x, 1, "16:4;17:3;18:1"));
        DUE.due("ITEMS", 3, x.told(2));
        DUE.due("CASES stay", 2, x.told(1));
        DUE.due("another RULE", 1, Due.take(x, 0, "*:9"));
        DUE.due("LINE by the other RULE", 9, x.line(0));
        DUE.due("a shorter GROWTH", 1, Due.take(x, 1, "24:1"));
        x.set(0, 1, 14);
        DUE.due("the longer one is gone", 0, x.grown(0, 0, 0));
    }

    private static void lineFor(String rule, int year, int age, int want) {
        KingsInches x = new KingsInches();
        Due.take(x, 0, rule);
        x.set(3, 0, year);
        x.set(3, 1, age);
        DUE.due("line by " + rule + " of " + year + ", " + age, want, x.line(3));
    }

    private static void line() {
        lineFor("*:0", 0, 25, 0);
        lineFor("*:7", 0, 25, 7);
        lineFor("*:07", 0, 25, 7);
        lineFor("*:63", 0, 25, 63);
        lineFor("*:64", 0, 25, 63);
        lineFor("y<30:5", 29, 25, 5);
        lineFor("y<30:5", 30, 25, 0);
        lineFor("y>30:5", 31, 25, 5);
        lineFor("y>30:5", 30, 25, 0);
        lineFor("y=30:5", 30, 25, 5);
        lineFor("y=30:5", 3, 25, 0);
        lineFor("a=30:5", 30, 25, 0);
        lineFor("a=30:5", 3, 30, 5);
        lineFor("y<5&a>20:11;y<5:12;*:13", 4, 21, 11);
        lineFor("y<5&a>20:11;y<5:12;*:13", 4, 20, 12);
        lineFor("y<5&a>20:11;y<5:12;*:13", 5, 21, 13);
        lineFor("a>20&y<5:11;*:13", 5, 21, 13);
        lineFor("*:13;*:14", 5, 21, 13);
        lineFor("y=1:1;y=2:2;y=3:3", 3, 21, 3);
        lineFor("y=1:1;y=2:2;y=3:3", 4, 21, 0);
        lineFor("y=1&y=2:1;*:8", 1, 21, 8);
        lineFor("y=1:9;y=2&*:8", 1, 21, 0);
        KingsInches x = new KingsInches();
        Due.take(x, 0, "*:20");
        x.set(1, 2, 1);
        x.set(2, 2, 2);
        DUE.due("line, KIND 0", 20, x.line(0));
        DUE.due("line, KIND 1", 0, x.line(1));
        DUE.due("line, KIND 2", 0, x.line(2));
        DUE.due("line(6)", -1, x.line(6));
        DUE.due("line(-1)", -1, x.line(-1));
    }
}
