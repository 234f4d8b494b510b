/** Terms, part 1, and promises 1 to 9: each sentence that names a boundary case, by itself. */
public final class EdgesOfBooksTest {
    private static final Due DUE = new Due();
    private static final int NONE = KingsInches.NONE;
    private static final String DIGITS = "0123456789";

    /** Ten CASES, fifteen ITEMS: 60 signs each. */
    private static final String LONGEST_RULE = "y=9:1;".repeat(9) + "y=0:42";
    private static final String LONGEST_GROWTH = "9:1;".repeat(14) + "14:7";

    public static void main(String[] args) {
        newBooksAreEmpty();
        newEntriesAndWays();
        newTextsAndPad();
        objectsAreTheirOwn();
        lastOfAllCalls();
        menOfEachHeight();
        menUpTo999();
        menAnswersHowManyThereWere();
        yearAgeKind();
        entriesAreTheBooksOwn();
        tenthsAndQuarters();
        waysAreTheirOwn();
        everySign();
        sixtySigns();
        roomForSignsAgain();
        wipeTellsHowMany();
        wipeLeavesTexts();
        signsOfARule();
        signsOfGrowth();
        oneOrTwoDigits();
        moreMustCome();
        theFirstFaultCounts();
        faultOfSixtySigns();
        faultChangesNothing();
        takeCountsPieces();
        takenSignsAreGone();
        takenTextReplacesTheOther();
        faultsAreNotTaken();
        lineAtItsTests();
        lineOfTheFirstCase();
        lineAtMost63();
        lineOfNoCase();
        lineByKind();
        DUE.end();
    }

    static void newBooksAreEmpty() {
        DUE.sentence("Promise 1: BOOKS are empty");
        KingsInches x = new KingsInches();
        for (int book = 0; book < 6; book++) {
            DUE.due("told " + book, 0, x.told(10 + book));
            DUE.due("mode " + book, NONE, x.mode(book));
            for (int height = 0; height < 64; height++) {
                DUE.due("men(" + book + ", " + height + ", 0)", 0, x.men(book, height, 0));
            }
        }
    }

    static void newEntriesAndWays() {
        DUE.sentence("Terms 1: YEAR 0, AGE 25, KIND 0 at first");
        KingsInches x = new KingsInches();
        for (int book = 0; book < 6; book++) {
            DUE.due("YEAR of " + book, 0, x.told(20 + book));
            DUE.due("AGE of " + book, 25, x.told(30 + book));
            DUE.due("KIND of " + book, 0, x.told(40 + book));
        }
        DUE.sentence("Terms 2, 3: LEAK, HEAP, FAVOUR, its tenths, LIED: 0 at first");
        for (int which = 0; which < 5; which++) {
            DUE.due("told(" + (3 + which) + ")", 0, x.told(3 + which));
            DUE.due("way(" + which + ", 0)", 0, x.way(which, 0));
        }
    }

    static void newTextsAndPad() {
        DUE.sentence("Promise 1: no RULE, no GROWTH; the PAD is empty");
        KingsInches x = new KingsInches();
        DUE.due("signs", 0, x.told(0));
        DUE.due("CASES", 0, x.told(1));
        DUE.due("ITEMS", 0, x.told(2));
        for (int book = 0; book < 6; book++) {
            DUE.due("LINE of " + book, 0, x.line(book));
        }
        x.set(0, 1, 14);
        x.way(4, 10);
        DUE.due("GROWN", 0, 1, x.grown(0, 0, 0), x.grown(0, 0, 1));
        DUE.due("GROWN, mean", 0, 1, x.grown(0, 1, 0), x.grown(0, 1, 1));
        DUE.due("wipe()", 0, x.wipe());
        DUE.due("the first sign", 1, x.say(42));
    }

    static void objectsAreTheirOwn() {
        DUE.sentence("Promise 1: a new object shares nothing with another one");
        KingsInches before = new KingsInches();
        Full.make();
        KingsInches[] both = {before, new KingsInches()};
        for (KingsInches x : both) {
            for (int what = 0; what <= 7; what++) {
                DUE.due("beside a full one, told(" + what + ")", 0, x.told(what));
            }
            for (int book = 0; book < 6; book++) {
                DUE.due("MEN of " + book, 0, x.told(10 + book));
                DUE.due("YEAR of " + book, 0, x.told(20 + book));
                DUE.due("AGE of " + book, 25, x.told(30 + book));
                DUE.due("KIND of " + book, 0, x.told(40 + book));
            }
            DUE.due("its IMAGES", KingsInches.STATE, x.restore(0));
            DUE.due("its IMAGES", KingsInches.STATE, x.restore(1));
        }
    }

    static void lastOfAllCalls() {
        DUE.sentence("An object is used for at most 512 calls");
        KingsInches x = new KingsInches();
        for (int call = 1; call <= 511; call++) {
            DUE.due("call " + call, call == 1 ? 0 : (call - 1) % 1000, x.men(5, 63, call % 1000));
        }
        DUE.due("call 512", 511, x.told(15));
    }

    static void menOfEachHeight() {
        DUE.sentence("Terms 1: HEIGHTS are 0 to 63; BOOKS 0 to 5");
        KingsInches x = new KingsInches();
        for (int height = 0; height < 64; height++) {
            x.men(height % 6, height, height + 1);
        }
        for (int height = 0; height < 64; height++) {
            for (int book = 0; book < 6; book++) {
                DUE.due("men(" + book + ", " + height + ", 0)", book == height % 6 ? height + 1 : 0,
                        x.men(book, height, 0));
            }
        }
    }

    static void menUpTo999() {
        DUE.sentence("Terms 1: MEN of each HEIGHT (0 to 999 each)");
        KingsInches x = Due.withFullBook(5);
        DUE.due("all MEN of a full BOOK", 64 * 999, x.told(15));
        DUE.due("one too many", KingsInches.OUTSIDE, x.men(5, 63, 1000));
        DUE.due("one too few", KingsInches.OUTSIDE, x.men(5, 63, -1));
        DUE.due("then", 999, x.men(5, 63, 0));
        DUE.due("all but one HEIGHT", 63 * 999, x.told(15));
        DUE.due("from 0 on", 0, x.men(5, 63, 999));
        DUE.due("full again", 64 * 999, x.told(15));
    }

    static void menAnswersHowManyThereWere() {
        DUE.sentence("Promise 2: MEN of a HEIGHT in a BOOK: how many there were");
        KingsInches x = new KingsInches();
        DUE.due("at first", 0, x.men(0, 0, 1));
        DUE.due("then", 1, x.men(0, 0, 998));
        DUE.due("they are set, not added", 998, x.men(0, 0, 999));
        DUE.due("the same again", 999, x.men(0, 0, 999));
        DUE.due("to none", 999, x.men(0, 0, 0));
        DUE.due("of none", 0, x.men(0, 0, 0));
    }

    private static void entry(int what, int first, int least, int most) {
        KingsInches x = new KingsInches();
        DUE.due("which it was at first", first, x.set(0, what, least));
        DUE.due("one below the least", KingsInches.OUTSIDE, x.set(0, what, least - 1));
        DUE.due("the least", least, x.set(0, what, least + 1));
        DUE.due("one above the least", least + 1, x.set(0, what, most));
        DUE.due("one above the most", KingsInches.OUTSIDE, x.set(0, what, most + 1));
        DUE.due("the most", most, x.told(20 + 10 * what));
        DUE.due("the same again", most, x.set(0, what, most));
    }

    static void yearAgeKind() {
        DUE.sentence("Terms 1: a YEAR (0 to 99; 0 at first)");
        entry(0, 0, 0, 99);
        DUE.sentence("Terms 1: an AGE (14 to 40; 25 at first)");
        entry(1, 25, 14, 40);
        DUE.sentence("Terms 1: a KIND (0, 1, 2; 0 at first)");
        entry(2, 0, 0, 2);
    }

    static void entriesAreTheBooksOwn() {
        DUE.sentence("Promise 3: 0 YEAR, 1 AGE, 2 KIND of a BOOK");
        KingsInches x = new KingsInches();
        x.set(5, 0, 99);
        x.set(0, 1, 40);
        x.set(3, 2, 2);
        for (int book = 0; book < 6; book++) {
            DUE.due("YEAR of " + book, book == 5 ? 99 : 0, x.told(20 + book));
            DUE.due("AGE of " + book, book == 0 ? 40 : 25, x.told(30 + book));
            DUE.due("KIND of " + book, book == 3 ? 2 : 0, x.told(40 + book));
        }
    }

    private static void way(int which, int most) {
        KingsInches x = new KingsInches();
        DUE.due("which it was at first", 0, x.way(which, most));
        DUE.due("one above the most", KingsInches.OUTSIDE, x.way(which, most + 1));
        DUE.due("one below the least", KingsInches.OUTSIDE, x.way(which, -1));
        DUE.due("the most", most, x.way(which, 0));
        DUE.due("the least", 0, x.told(3 + which));
        DUE.due("the least was", 0, x.way(which, 1));
    }

    static void tenthsAndQuarters() {
        DUE.sentence("Terms 2: LEAK is tenths (0 to 9; 0 at first)");
        way(0, 9);
        DUE.sentence("Terms 3: HEAP (tenths, 0 to 9; 0 at first)");
        way(1, 9);
        DUE.sentence("Terms 3: FAVOUR (0 to 4 QUARTERS; 0 at first)");
        way(2, 4);
        DUE.sentence("Terms 3: and its tenths (0 to 10; 0)");
        way(3, 10);
        DUE.sentence("Terms 3: LIED (tenths, 0 to 10; 0 at first)");
        way(4, 10);
    }

    static void waysAreTheirOwn() {
        DUE.sentence("Promise 4: 0 LEAK, 1 HEAP, 2 FAVOUR, 3 its tenths, 4 LIED");
        for (int which = 0; which < 5; which++) {
            KingsInches x = new KingsInches();
            x.way(which, 3);
            for (int other = 0; other < 5; other++) {
                DUE.due("way " + other + ", set " + which, other == which ? 3 : 0, x.told(3 + other));
            }
        }
    }

    static void everySign() {
        DUE.sentence("Terms 1: signs (codes 33 to 126)");
        KingsInches x = new KingsInches();
        for (int sign = 33; sign <= 126; sign++) {
            DUE.due("say(" + sign + ")", 1, x.say(sign));
            DUE.due("wipe()", 1, x.wipe());
        }
        int[] none = {32, 127, 0, -1, 10, 128, 255, 256 + 42, 65536 + 42, Integer.MIN_VALUE, Integer.MAX_VALUE};
        for (int sign : none) {
            DUE.due("say(" + sign + ")", KingsInches.OUTSIDE, x.say(sign));
        }
        DUE.due("none came", 0, x.told(0));
    }

    static void sixtySigns() {
        DUE.sentence("Promise 5: A sign more: how many. FULL");
        KingsInches x = new KingsInches();
        for (int n = 1; n <= 60; n++) {
            DUE.due("sign " + n, n, x.say(LONGEST_RULE.charAt(n - 1)));
            DUE.due("told(0)", n, x.told(0));
        }
        DUE.due("sign 61", KingsInches.FULL, x.say(';'));
        DUE.due("sign 61 again", KingsInches.FULL, x.say('1'));
        DUE.due("no sign at all", KingsInches.OUTSIDE, x.say(32));
        DUE.due("signs", 60, x.told(0));
        DUE.due("they are as they were", 10, x.take(0));
        DUE.due("to the last", 42, x.line(0));
    }

    static void roomForSignsAgain() {
        DUE.sentence("Promise 6, 8: signs go, so that others may come");
        KingsInches x = new KingsInches();
        Due.say(x, LONGEST_RULE);
        x.take(0);
        DUE.due("after take", 1, x.say('*'));
        x.wipe();
        Due.say(x, LONGEST_GROWTH);
        DUE.due("full", KingsInches.FULL, x.say('*'));
        x.wipe();
        DUE.due("after wipe", 1, x.say('*'));
        DUE.due("none of the old ones comes back", 1, x.fault(0));
    }

    static void wipeTellsHowMany() {
        DUE.sentence("Promise 6: Signs go: how many there were");
        KingsInches x = new KingsInches();
        DUE.due("of none", 0, x.wipe());
        x.say(33);
        DUE.due("of one", 1, x.wipe());
        DUE.due("told(0)", 0, x.told(0));
        Due.say(x, LONGEST_RULE);
        DUE.due("of sixty", 60, x.wipe());
        DUE.due("of none again", 0, x.wipe());
    }

    static void wipeLeavesTexts() {
        DUE.sentence("Promise 6: Signs go, and nothing else");
        KingsInches x = Full.make();
        x.wipe();
        DUE.due("signs", 0, x.told(0));
        int[] told = {2, 2, 1, 4, 2, 6, 7};
        for (int what = 1; what <= 7; what++) {
            DUE.due("told(" + what + ")", told[what - 1], x.told(what));
        }
        DUE.due("LINE of YEAR 8", 20, x.line(0));
        DUE.due("GROWN of AGE 14", 4, x.grown(3, 0, 0));
        DUE.due("MEN", 9, x.told(10));
        DUE.due("YEAR", 8, x.told(20));
        DUE.due("AGE", 14, x.told(33));
        DUE.due("KIND", 2, x.told(42));
        DUE.due("an IMAGE", 1, x.restore(0));
        DUE.due("its YEAR", 50, x.told(20));
        DUE.due("its ITEMS", 2, x.told(2));
    }

    /** Behind this beginning, of all signs just these can stand. */
    private static void mayCome(int how, String beginning, String signs) {
        KingsInches x = new KingsInches();
        for (int sign = 33; sign <= 126; sign++) {
            if (sign == 80) {
                x = new KingsInches();
            }
            x.wipe();
            Due.say(x, beginning);
            x.say(sign);
            boolean stands = x.fault(how) != beginning.length();
            DUE.due("behind " + beginning + " comes " + (char) sign, signs.indexOf(sign) >= 0 ? 1 : 0, stands ? 1 : 0);
        }
    }

    static void signsOfARule() {
        DUE.sentence("Terms 1: one CASE or more, with a ; between two: * or TESTS with a & between two,"
                + " :, 1 or 2 digits");
        mayCome(0, "", "*ya");
        mayCome(0, "*", ":");
        mayCome(0, "y", "<>=");
        mayCome(0, "a", "<>=");
        mayCome(0, "y<", DIGITS);
        mayCome(0, "a>", DIGITS);
        mayCome(0, "y=", DIGITS);
        mayCome(0, "y<0", DIGITS + "&:");
        mayCome(0, "a>99", "&:");
        mayCome(0, "a>9&", "ya");
        mayCome(0, "*:", DIGITS);
        mayCome(0, "a=1:", DIGITS);
        mayCome(0, "*:0", DIGITS + ";");
        mayCome(0, "*:99", ";");
        mayCome(0, "*:9;", "*ya");
    }

    static void signsOfGrowth() {
        DUE.sentence("Terms 1: one ITEM or more, with a ; between two: 1 or 2 digits (an AGE), :, a digit");
        mayCome(1, "", DIGITS);
        mayCome(1, "0", DIGITS + ":");
        mayCome(1, "99", ":");
        mayCome(1, "9:", DIGITS);
        mayCome(1, "99:", DIGITS);
        mayCome(1, "99:0", ";");
        mayCome(1, "9:9;", DIGITS);
    }

    private static void faultIs(int how, String text, int want) {
        KingsInches x = new KingsInches();
        Due.say(x, text);
        DUE.due("fault(" + how + ") of " + text, want, x.fault(how));
    }

    static void oneOrTwoDigits() {
        DUE.sentence("Terms 1: 1 or 2 digits");
        faultIs(0, "*:0", NONE);
        faultIs(0, "*:00", NONE);
        faultIs(0, "*:000", 4);
        faultIs(0, "y<0:1", NONE);
        faultIs(0, "y<00:1", NONE);
        faultIs(0, "y<000:1", 4);
        faultIs(1, "0:0", NONE);
        faultIs(1, "00:0", NONE);
        faultIs(1, "000:0", 2);
        DUE.sentence("Terms 1: a digit (QUARTERS that one grows)");
        faultIs(1, "14:9", NONE);
        faultIs(1, "14:10", 4);
    }

    static void moreMustCome() {
        DUE.sentence("Terms 1: THE FAULT: the number of signs, if more must come");
        String rule = "y<1&a>23:4;*:56";
        String growth = "1:2;34:5";
        int[] wholeRules = {10, 14, 15};
        int[] wholeGrowths = {3, 8};
        for (int n = 0; n <= rule.length(); n++) {
            faultIs(0, rule.substring(0, n), isOneOf(n, wholeRules) ? NONE : n);
        }
        for (int n = 0; n <= growth.length(); n++) {
            faultIs(1, growth.substring(0, n), isOneOf(n, wholeGrowths) ? NONE : n);
        }
    }

    private static boolean isOneOf(int n, int[] all) {
        for (int v : all) {
            if (v == n) {
                return true;
            }
        }
        return false;
    }

    static void theFirstFaultCounts() {
        DUE.sentence("Terms 1: THE FAULT: the place (from 0 on) of the first sign that can not stand there");
        faultIs(0, "!*:1", 0);
        faultIs(0, "!!!", 0);
        faultIs(0, "*!:1!", 1);
        faultIs(0, "*:1;*:1;!:1;!", 8);
        faultIs(1, "*:1", 0);
        faultIs(1, "1:1;1:1;1:1!!", 11);
        faultIs(0, LONGEST_RULE.substring(0, 59) + "!", 59);
        faultIs(1, LONGEST_GROWTH.substring(0, 59) + "!", 59);
    }

    static void faultOfSixtySigns() {
        DUE.sentence("Terms 1: a text of up to 60 signs");
        faultIs(0, LONGEST_RULE, NONE);
        faultIs(1, LONGEST_GROWTH, NONE);
        faultIs(0, "*:1;".repeat(15), 60);
        faultIs(1, "1:1;".repeat(15), 60);
        faultIs(1, LONGEST_RULE, 0);
        faultIs(0, LONGEST_GROWTH, 0);
    }

    static void faultChangesNothing() {
        DUE.sentence("Promise 7: fault tells and changes nothing");
        KingsInches x = new KingsInches();
        Due.say(x, "*:1");
        DUE.due("as GROWTH", 0, x.fault(1));
        DUE.due("as a RULE", NONE, x.fault(0));
        DUE.due("once more", NONE, x.fault(0));
        DUE.due("neither", KingsInches.OUTSIDE, x.fault(2));
        DUE.due("signs", 3, x.told(0));
        DUE.due("no RULE yet", 0, x.told(1));
    }

    static void takeCountsPieces() {
        DUE.sentence("Promise 8: CASES, ITEMS");
        KingsInches x = new KingsInches();
        DUE.due("one CASE", 1, Due.take(x, 0, "a=1&y=2&a=3:4"));
        DUE.due("told(1)", 1, x.told(1));
        DUE.due("two CASES", 2, Due.take(x, 0, "*:4;*:4"));
        DUE.due("ten CASES", 10, Due.take(x, 0, LONGEST_RULE));
        DUE.due("told(1)", 10, x.told(1));
        DUE.due("told(2)", 0, x.told(2));
        DUE.due("one ITEM", 1, Due.take(x, 1, "9:9"));
        DUE.due("two ITEMS", 2, Due.take(x, 1, "9:9;9:9"));
        DUE.due("fifteen ITEMS", 15, Due.take(x, 1, LONGEST_GROWTH));
        DUE.due("told(2)", 15, x.told(2));
        DUE.due("told(1) still", 10, x.told(1));
        x.set(0, 1, 14);
        DUE.due("the last ITEM", 7, x.grown(0, 0, 0));
        DUE.due("the last CASE", 42, x.line(0));
        DUE.due("fifteen CASES", 15, Due.take(x, 0, "*:1;".repeat(14) + "*:12"));
    }

    static void takenSignsAreGone() {
        DUE.sentence("Promise 8: (they are gone then)");
        KingsInches x = new KingsInches();
        Due.say(x, "*:7");
        DUE.due("take", 1, x.take(0));
        DUE.due("signs", 0, x.told(0));
        DUE.due("no second time", KingsInches.NO, x.take(0));
        DUE.due("THE RULE stays", 7, x.line(0));
        Due.say(x, "*:8");
        DUE.due("signs on the PAD are not THE RULE yet", 7, x.line(0));
        x.wipe();
        Due.say(x, "14:1");
        DUE.due("take(1)", 1, x.take(1));
        DUE.due("signs", 0, x.told(0));
        DUE.due("no second time", KingsInches.NO, x.take(1));
    }

    static void takenTextReplacesTheOther() {
        DUE.sentence("Promise 8: The signs are THE RULE, GROWTH");
        KingsInches x = new KingsInches();
        Due.take(x, 0, LONGEST_RULE);
        Due.take(x, 0, "y=1:5");
        DUE.due("nothing is left of a longer RULE", 0, x.line(0));
        DUE.due("CASES", 1, x.told(1));
        Due.take(x, 0, "*:12");
        Due.take(x, 0, "*:1");
        DUE.due("not a digit of it", 1, x.line(0));
        Due.take(x, 1, "15:1;16:2;14:3");
        Due.take(x, 1, "15:4");
        x.set(0, 1, 14);
        DUE.due("nothing is left of a longer GROWTH", 4, x.grown(0, 0, 0));
        DUE.due("ITEMS", 1, x.told(2));
    }

    static void faultsAreNotTaken() {
        DUE.sentence("Promise 8: NO: there is a FAULT");
        KingsInches x = new KingsInches();
        Due.take(x, 0, "*:7");
        DUE.due("of no signs", KingsInches.NO, x.take(0));
        DUE.due("of no signs, GROWTH", KingsInches.NO, x.take(1));
        Due.say(x, "*:8;");
        DUE.due("more must come", KingsInches.NO, x.take(0));
        DUE.due("a sign that can not stand there", KingsInches.NO, x.take(1));
        DUE.due("OUTSIDE goes ahead", KingsInches.OUTSIDE, x.take(2));
        DUE.due("signs stay", 4, x.told(0));
        DUE.due("THE RULE stays", 7, x.line(0));
        DUE.due("no GROWTH", 0, x.told(2));
        Due.say(x, "*:9");
        DUE.due("taken when it is whole", 2, x.take(0));
        DUE.due("THE RULE then", 8, x.line(0));
    }

    private static void lineIs(String rule, int year, int age, int want) {
        KingsInches x = Due.withRule(rule);
        x.set(0, 0, year);
        x.set(0, 1, age);
        DUE.due("line by " + rule + ", YEAR " + year + ", AGE " + age, want, x.line(0));
    }

    static void lineAtItsTests() {
        DUE.sentence("Terms 1: y the YEAR, or a the AGE; <, > or =");
        lineIs("y<50:9", 49, 14, 9);
        lineIs("y<50:9", 50, 14, 0);
        lineIs("y>50:9", 50, 14, 0);
        lineIs("y>50:9", 51, 14, 9);
        lineIs("y=50:9", 49, 14, 0);
        lineIs("y=50:9", 50, 14, 9);
        lineIs("y=50:9", 51, 14, 0);
        lineIs("a<20:9", 99, 19, 9);
        lineIs("a<20:9", 99, 20, 0);
        lineIs("a>20:9", 99, 20, 0);
        lineIs("a>20:9", 99, 21, 9);
        lineIs("a=20:9", 99, 19, 0);
        lineIs("a=20:9", 99, 20, 9);
        lineIs("a=20:9", 99, 21, 0);
        lineIs("y<0:9", 0, 25, 0);
        lineIs("y=0:9", 0, 25, 9);
        lineIs("y=00:9", 0, 25, 9);
        lineIs("y>98:9", 99, 25, 9);
        lineIs("y>99:9", 99, 25, 0);
        lineIs("a=14:9", 0, 14, 9);
        lineIs("a=40:9", 0, 40, 9);
        lineIs("y=5:9", 5, 25, 9);
        lineIs("y=05:9", 5, 25, 9);
        lineIs("y=5:9", 50, 25, 0);
        DUE.sentence("Terms 1: TESTS with a & between two: all must fit");
        lineIs("y>1&y<3:9", 2, 25, 9);
        lineIs("y>1&y<3:9", 1, 25, 0);
        lineIs("y>1&y<3:9", 3, 25, 0);
        lineIs("y=1&a=20&y<2:9", 1, 20, 9);
        lineIs("y=1&a=20&y<1:9", 1, 20, 0);
        lineIs("y=2&a=20&y<2:9", 1, 20, 0);
    }

    static void lineOfTheFirstCase() {
        DUE.sentence("Terms 1: what the first CASE that fits says");
        lineIs("*:1;*:2", 0, 25, 1);
        lineIs("y=0:0;*:2", 0, 25, 0);
        lineIs("y=1:1;*:2;y=0:3", 0, 25, 2);
        lineIs("y=1:1;y=0:2;y=0:3", 0, 25, 2);
        lineIs("y=1:1;y=2:2;*:3", 0, 25, 3);
        lineIs("y=0&a=1:1;y=0:2", 0, 25, 2);
        lineIs("y=1&a=25:1;a=25:2", 0, 25, 2);
    }

    static void lineAtMost63() {
        DUE.sentence("Terms 1: LINE of a BOOK (63 at most)");
        lineIs("*:0", 0, 25, 0);
        lineIs("*:1", 0, 25, 1);
        lineIs("*:62", 0, 25, 62);
        lineIs("*:63", 0, 25, 63);
        lineIs("*:64", 0, 25, 63);
        lineIs("*:99", 0, 25, 63);
        lineIs("*:09", 0, 25, 9);
    }

    static void lineOfNoCase() {
        DUE.sentence("Terms 1: LINE 0, if none does");
        DUE.due("no RULE", 0, new KingsInches().line(5));
        lineIs("y=1:9;a=1:8", 0, 25, 0);
        lineIs("y>0:63", 0, 25, 0);
    }

    static void lineByKind() {
        DUE.sentence("Terms 1: LINE 0, if its KIND is 1 or 2");
        KingsInches x = Due.withRule("*:63");
        for (int book = 0; book < 6; book++) {
            DUE.due("KIND 0", 63, x.line(book));
            x.set(book, 2, 1);
            DUE.due("KIND 1", 0, x.line(book));
            x.set(book, 2, 2);
            DUE.due("KIND 2", 0, x.line(book));
            x.set(book, 2, 0);
            DUE.due("KIND 0 again", 63, x.line(book));
        }
        DUE.due("line(6)", KingsInches.UNKNOWN, x.line(6));
        DUE.due("line(-1)", KingsInches.UNKNOWN, x.line(-1));
    }
}
