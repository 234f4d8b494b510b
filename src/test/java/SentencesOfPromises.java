/** The sentences of promises 1 to 34. */
final class SentencesOfPromises {
    private SentencesOfPromises() {
    }

    static void add(Sentences all) {
        newObject(all);
        books(all);
        pad(all);
        texts(all);
        humps(all);
        undoing(all);
        heaps(all);
        youngOnes(all);
        sorts(all);
        means(all);
        kinds(all);
        worlds(all);
        images(all);
        told(all);
    }

    private static void newObject(Sentences all) {
        all.in("Promise 1");
        all.says("BOOKS are empty; no RULE, no GROWTH; the PAD is empty.")
            .by(EdgesOfBooksTest::newBooksAreEmpty, EdgesOfBooksTest::newTextsAndPad,
                EdgesOfBooksTest::objectsAreTheirOwn)
            .broken("trial = new Book();", "trial = new Book(); now.books[5].put(63, 1);")
            .broken("trial = new Book();", "trial = new Book(); Due.say(this, \"*:7\"); take(0);")
            .broken("trial = new Book();", "trial = new Book(); Due.say(this, \"22:7\"); take(1);")
            .broken("trial = new Book();", "trial = new Book(); pad.add('*');")
            .broken("entries = FIRST_ENTRY.clone()", "entries = FIRST_ENTRY")
            .broken("kept = new boolean[IMAGES];", "kept = new boolean[IMAGES]; kept[0] = true;");
    }

    private static void books(Sentences all) {
        all.in("Promise 2");
        all.says("MEN of a HEIGHT in a BOOK: how many there were.")
            .by(EdgesOfBooksTest::menAnswersHowManyThereWere, EdgesOfBooksTest::menOfEachHeight)
            .brokenIn("int men(", "return was;", "return n;")
            .brokenIn("int men(", "asked.put(height, n);", "")
            .brokenIn("int men(", "asked.put(height, n);", "asked.put(height, Math.min(MOST_MEN, was + n));")
            .brokenIn("int men(", "asked.put(height, n);", "asked.put(TALLEST - height, n);")
            .brokenIn("int men(", "asked.put(height, n);", "now.books[0].put(height, n);");
        all.refuses("men", "UNKNOWN; OUTSIDE.")
            .brokenIn("int men(", "return UNKNOWN;", "return OUTSIDE;")
            .brokenIn("int men(", "return OUTSIDE;", "return UNKNOWN;")
            .brokenIn("int men(", "!isHeight(height) || ", "")
            .brokenIn("int men(", "|| !within(n, 0, MOST_MEN)", "|| n > MOST_MEN")
            .brokenIn("int men(", "|| !within(n, 0, MOST_MEN)", "|| n < 0");
        all.in("Promise 3");
        all.says("0 YEAR, 1 AGE, 2 KIND of a BOOK: which it was.")
            .by(EdgesOfBooksTest::entriesAreTheBooksOwn, EdgesOfBooksTest::yearAgeKind,
                EdgesOfBooksTest::lineAtItsTests)
            .brokenIn("int set(", "return was;", "return v;")
            .brokenIn("int set(", "asked.enter(what, v);", "")
            .brokenIn("int set(", "asked.enter(what, v);", "now.books[0].enter(what, v);")
            .brokenIn("int set(", "asked.enter(what, v);", "asked.enter(KIND - what, v);");
        all.refuses("set", "UNKNOWN; OUTSIDE.")
            .brokenIn("int set(", "return UNKNOWN;", "return OUTSIDE;")
            .brokenIn("int set(", "return OUTSIDE;", "return UNKNOWN;")
            .brokenIn("int set(", "within(what, YEAR, KIND)", "within(what, YEAR, KIND + 1)")
            .brokenIn("int set(", "within(v, LEAST_ENTRY[what], MOST_ENTRY[what])", "(v >= LEAST_ENTRY[what])")
            .brokenIn("int set(", "within(v, LEAST_ENTRY[what], MOST_ENTRY[what])", "(v <= MOST_ENTRY[what])");
        all.in("Promise 4");
        all.says("0 LEAK, 1 HEAP, 2 FAVOUR, 3 its tenths, 4 LIED: which it was.")
            .by(EdgesOfBooksTest::waysAreTheirOwn, EdgesOfBooksTest::tenthsAndQuarters,
                EdgesOfHumpsTest::leakBelowTheLine, EdgesOfHeapsTest::heapOf0And9,
                EdgesOfHeapsTest::favourUpToItsQuarters, EdgesOfHeapsTest::liedTenths)
            .broken("LEAK = 0, HEAP = 1", "LEAK = 1, HEAP = 0")
            .broken("HEAP = 1, FAVOUR = 2", "HEAP = 2, FAVOUR = 1")
            .broken("FAVOUR = 2, FAVOURED = 3", "FAVOUR = 3, FAVOURED = 2")
            .broken("FAVOURED = 3, LIED = 4", "FAVOURED = 4, LIED = 3")
            .brokenIn("int way(", "return was;", "return v;")
            .brokenIn("int way(", "now.turn(which, v);", "");
        all.refuses("way", "OUTSIDE.")
            .brokenIn("int way(", "within(which, LEAK, LIED)", "within(which, LEAK, LIED + 1)")
            .brokenIn("int way(", "within(which, LEAK, LIED)", "(which <= LIED)")
            .brokenIn("int way(", "!within(v, 0, MOST_WAY[which])", "v < 0")
            .brokenIn("int way(", "!within(v, 0, MOST_WAY[which])", "v > MOST_WAY[which]")
            .brokenIn("int way(", "return OUTSIDE;", "return NO;");
    }

    private static void pad(Sentences all) {
        all.in("Promise 5");
        all.says("A sign more: how many.")
            .by(EdgesOfBooksTest::sixtySigns, EdgesOfBooksTest::roomForSignsAgain)
            .brokenIn("int say(", "? pad.count :", "? 1 :")
            .brokenIn("boolean add(", "signs[count] = sign;", "signs[0] = sign;")
            .brokenIn("boolean add(", "count++;", "");
        all.refuses("say", "OUTSIDE; FULL.")
            .by(EdgesOfBooksTest::everySign, LaterRefusalsTest::fullPad)
            .brokenIn("int say(", "within(sign, 33, 126)", "within(sign, 32, 126)")
            .brokenIn("int say(", "within(sign, 33, 126)", "within(sign & 255, 33, 126)")
            .brokenIn("int say(", "return OUTSIDE;", "return NO;")
            .brokenIn("int say(", ": FULL", ": OUTSIDE")
            .brokenIn("boolean add(", "count >= signs.length", "count >= signs.length - 1");
        all.in("Promise 6");
        all.says("Signs go: how many there were.")
            .by(EdgesOfBooksTest::wipeTellsHowMany, EdgesOfBooksTest::wipeLeavesTexts,
                EdgesOfBooksTest::roomForSignsAgain)
            .brokenIn("int wipe(", "pad.clear();", "")
            .brokenIn("int wipe(", "return was;", "return pad.count;")
            .brokenIn("int wipe(", "pad.clear();", "pad.clear(); now.rule.clear();")
            .brokenIn("int wipe(", "pad.clear();", "pad.clear(); now.growth.clear();");
    }

    private static void texts(Sentences all) {
        all.in("Promise 7");
        all.says("THE FAULT as a RULE (how = 0), as GROWTH (1); NONE.")
            .by(EdgesOfBooksTest::faultChangesNothing, EdgesOfBooksTest::moreMustCome,
                EdgesOfBooksTest::theFirstFaultCounts)
            .brokenIn("int faultOf(", "how == 0 ? CASE : ITEM", "how == 0 ? ITEM : CASE")
            .brokenIn("int faultOf(", "? NONE :", "? NO :")
            .brokenIn("int fault(", "? Grammar.faultOf(pad, how)", "? Grammar.faultOf(pad, 0)");
        all.refuses("fault", "OUTSIDE.")
            .brokenIn("int fault(", "within(how, 0, 1)", "within(how, 0, 2)")
            .brokenIn("int fault(", "within(how, 0, 1)", "within(how, -1, 1)")
            .brokenIn("int fault(", ": OUTSIDE", ": NO");
        all.in("Promise 8");
        all.says("The signs are THE RULE (how = 0), GROWTH (1) (they are gone then): CASES, ITEMS.")
            .by(EdgesOfBooksTest::takeCountsPieces, EdgesOfBooksTest::takenSignsAreGone,
                EdgesOfBooksTest::takenTextReplacesTheOther)
            .brokenIn("int take(", "how == 0 ? now.rule : now.growth", "how == 0 ? now.growth : now.rule")
            .brokenIn("int take(", "pad.clear();", "")
            .brokenIn("int take(", "taken.copyFrom(pad);", "")
            .brokenIn("int take(", "return taken.pieces();", "return taken.count;")
            .brokenIn("int pieces(", "signAt(i) == ';'", "signAt(i) == '&'")
            .brokenIn("void copyFrom(Text", "count = other.count;", "count = Math.max(count, other.count);");
        all.refuses("take", "OUTSIDE; NO: there is a FAULT.")
            .by(EdgesOfBooksTest::faultsAreNotTaken, LaterRefusalsTest::faults)
            .brokenIn("int take(", "within(how, 0, 1)", "within(how, 0, 2)")
            .brokenIn("int take(", "within(how, 0, 1)", "(how <= 1)")
            .brokenIn("int take(", "Grammar.faultOf(pad, how) != NONE", "Grammar.faultOf(pad, how) > 0")
            .brokenIn("int take(", "Grammar.faultOf(pad, how) != NONE",
                "within(Grammar.faultOf(pad, how), 0, pad.count - 1)")
            .brokenIn("int take(", "return NO;", "return OUTSIDE;");
        all.in("Promise 9");
        all.says("LINE of a BOOK.")
            .by(EdgesOfBooksTest::lineByKind, EdgesOfBooksTest::lineAtItsTests, EdgesOfBooksTest::lineOfTheFirstCase)
            .brokenIn("int line(", "now.lineOf(asked)", "now.lineOf(now.books[0])")
            .brokenIn("int line(", "now.lineOf(asked)", "Reading.lineBy(now.rule, 0, 25)");
        all.refuses("line", "UNKNOWN.")
            .brokenIn("int line(", "? UNKNOWN", "? OUTSIDE")
            .brokenIn("int line(", "? UNKNOWN", "? 0");
    }

    private static void humps(Sentences all) {
        all.in("Promise 10");
        all.says("Men of a HEIGHT in a HUMP.")
            .by(EdgesOfHumpsTest::humpEnds, EdgesOfHumpsTest::humpOfEachWidth, EdgesOfHumpsTest::humpBeyondTheEnds)
            .brokenIn("int hump(", "humps.menAt(m, w, height)", "humps.menAt(m, 1, height)")
            .brokenIn("int hump(", "humps.menAt(m, w, height)", "(int) humps.countFrom(m, w, height)")
            .brokenIn("int hump(", "humps.menAt(m, w, height)", "humps.menAt(30, w, height)");
        all.refuses("hump", "OUTSIDE.")
            .brokenIn("int hump(", "&& isHeight(height)", "")
            .brokenIn("int hump(", "isHump(m, w)", "isHeight(m)")
            .brokenIn("int hump(", "isHump(m, w)", "isWidth(w)")
            .brokenIn("int hump(", ": OUTSIDE", ": NO");
        all.in("Promise 11");
        all.says("UPPER from a line on: the part (what = 0), the mean (1; 0 by 1 of nobody).")
            .by(EdgesOfHumpsTest::upperFromTheLineOn, EdgesOfHumpsTest::upperOfAll, EdgesOfHumpsTest::upperOfNobody)
            .brokenIn("long upper(", "if (what == 0)", "if (what == 1)")
            .brokenIn("long upper(", "long above = humps.countFrom(m, w, line);",
                "long above = humps.countFrom(m, w, line); if (above == 0) { return LOST + NO; }")
            .brokenIn("long upper(", "tell(humps.sumFrom(m, w, line), above, part)",
                "tell(humps.sumFrom(m, w, 0), above, part)");
        all.refuses("upper", "OUTSIDE (LOST less 2).")
            .brokenIn("long upper(", "!isHump(m, w)", "!isWidth(w)")
            .brokenIn("long upper(", "!isHump(m, w)", "!isHeight(m)")
            .brokenIn("long upper(", "|| !isHeight(line)", "")
            .brokenIn("long upper(", "|| !within(what, 0, 1)", "")
            .brokenIn("long upper(", "|| !isPart(part)", "")
            .brokenIn("long upper(", "LOST + OUTSIDE", "OUTSIDE");
    }

    private static void undoing(Sentences all) {
        all.in("Promise 12");
        all.says("MISFIT of a BOOK with a HUMP and a line.")
            .by(EdgesOfHumpsTest::partsAtTheLine, EdgesOfHumpsTest::leakBelowTheLine,
                EdgesOfHumpsTest::misfitBeyondTheEnds)
            .brokenIn("int misfit(", "misfitOf(asked, m, w, line,", "misfitOf(asked, m, w, now.lineOf(asked),")
            .brokenIn("int misfit(", "now.wayOf(LEAK)", "0")
            .brokenIn("int misfit(", "misfitOf(asked, m,", "misfitOf(now.books[0], m,");
        all.refuses("misfit", "UNKNOWN; OUTSIDE; NO.")
            .by(EdgesOfHumpsTest::misfitWithoutParts, LaterRefusalsTest::noParts)
            .brokenIn("int misfit(", "return UNKNOWN;", "return OUTSIDE;")
            .brokenIn("int misfit(", "return OUTSIDE;", "return NO;")
            .brokenIn("int misfit(", "|| !isHeight(line)", "")
            .brokenIn("int misfit(", "!isHump(m, w)", "!isWidth(w)")
            .brokenIn("int misfitOf(", "return NO;", "return NONE;");
        all.in("Promise 13");
        all.says("FIT: the MIDDLE (what = 0), its MISFIT (1).")
            .by(EdgesOfHumpsTest::fitIsTheFirst, EdgesOfHumpsTest::fitByItsLine)
            .brokenIn("int fit(", "what == 0 ? undoing.middle : undoing.misfit",
                "what == 0 ? undoing.misfit : undoing.middle")
            .brokenIn("int fit(", "seekMiddle(asked, w);", "seekMiddle(now.books[0], w);");
        all.refuses("fit", "UNKNOWN; OUTSIDE.")
            .brokenIn("int fit(", "return UNKNOWN;", "return OUTSIDE;")
            .brokenIn("int fit(", "return OUTSIDE;", "return NO;")
            .brokenIn("int fit(", "!isWidth(w) ||", "")
            .brokenIn("int fit(", "|| !within(what, 0, 1)", "");
        all.says("(There always is one.)")
            .by(EdgesOfHumpsTest::fitAlwaysIs)
            .brokenIn("void offer(", "so != NO && (", "(")
            .brokenIn("int fit(", "seekMiddle(asked, w);",
                "seekMiddle(asked, w); if (undoing.middle > 50) { return NONE; }")
            .brokenIn("int fit(", "seekMiddle(asked, w);",
                "seekMiddle(asked, w); if (asked.total == 0) { return NONE; }");
        all.in("Promise 14");
        all.says("SPAN: the least (end = 0), the greatest (1).")
            .by(EdgesOfHumpsTest::spanBySlack, EdgesOfHumpsTest::spanBySlackOf999)
            .brokenIn("int span(", "end == 0 ? undoing.first : undoing.last",
                "end == 0 ? undoing.last : undoing.first")
            .brokenIn("int span(", "seekSpan(asked, w, slack);", "seekSpan(asked, w, 0);")
            .brokenIn("int span(", "seekSpan(asked, w, slack);", "seekSpan(now.books[0], w, slack);");
        all.refuses("span", "UNKNOWN; OUTSIDE.")
            .brokenIn("int span(", "return UNKNOWN;", "return OUTSIDE;")
            .brokenIn("int span(", "return OUTSIDE;", "return NO;")
            .brokenIn("int span(", "!isWidth(w) ||", "")
            .brokenIn("int span(", "|| !within(slack, 0, MOST_SLACK)", "|| slack < 0")
            .brokenIn("int span(", "|| !within(end, 0, 1)", "");
        all.in("Promise 15");
        all.says("FOUND: the line (what = 0), the MIDDLE (1), MISFIT (2).")
            .by(EdgesOfHumpsTest::foundIsTheFirstLine, EdgesOfHumpsTest::foundByLeakNotByLine)
            .brokenIn("int found(", "return undoing.line;", "return undoing.middle;")
            .brokenIn("int found(", "what == 1 ? undoing.middle : undoing.misfit",
                "what == 1 ? undoing.misfit : undoing.middle")
            .brokenIn("int found(", "now.wayOf(LEAK)", "0");
        all.refuses("found", "UNKNOWN; OUTSIDE.")
            .brokenIn("int found(", "return UNKNOWN;", "return OUTSIDE;")
            .brokenIn("int found(", "return OUTSIDE;", "return NO;")
            .brokenIn("int found(", "!isWidth(w) ||", "")
            .brokenIn("int found(", "|| !within(what, 0, 2)", "|| what < 0");
        all.says("(There always is one.)")
            .by(EdgesOfHumpsTest::foundAlwaysIs)
            .brokenIn("void seekLine(", "seekMiddle(book, w, 0, leak);", "")
            .brokenIn("int found(", "if (what == 0)", "if (asked.total == 0) { return NONE; } if (what == 0)");
    }

    private static void heaps(Sentences all) {
        all.in("Promise 16");
        all.says("WRITTEN: the odds.")
            .by(EdgesOfHeapsTest::heapOf0And9, EdgesOfHeapsTest::favourTenths, EdgesOfHeapsTest::favourAheadOfHeap)
            .brokenIn("long written(", "hundredths(line, stands, at)", "hundredths(line, at, stands)")
            .brokenIn("long written(", "TENTHS * TENTHS", "TENTHS")
            .brokenIn("long written(", "hundredths(line,", "hundredths(0,");
        all.refuses("written", "OUTSIDE.")
            .brokenIn("long written(", "!isHeight(line) ||", "")
            .brokenIn("long written(", "|| !isHeight(stands)", "")
            .brokenIn("long written(", "|| !isHeight(at)", "")
            .brokenIn("long written(", "|| !isPart(part)", "")
            .brokenIn("long written(", "LOST + OUTSIDE", "OUTSIDE");
        all.in("Promise 17");
        all.says("BACK: the odds.")
            .by(EdgesOfHeapsTest::backToWhereHeStands, EdgesOfHeapsTest::backOfNobody,
                EdgesOfHeapsTest::backByFavour)
            .brokenIn("long back(", "tell(these, all, part)", "tell(these, 100, part)")
            .brokenIn("long back(", "tell(these, all, part)", "tell(all - these, all, part)")
            .brokenIn("long back(", "humps.menAt(m, w, stands)", "humps.menAt(m, w, at)");
        all.refuses("back", "OUTSIDE.")
            .brokenIn("long back(", "!isHump(m, w)", "!isWidth(w)")
            .brokenIn("long back(", "!isHump(m, w)", "!isHeight(m)")
            .brokenIn("long back(", "|| !isHeight(line)", "")
            .brokenIn("long back(", "|| !isHeight(at)", "")
            .brokenIn("long back(", "|| !isHeight(stands)", "")
            .brokenIn("long back(", "|| !isPart(part)", "")
            .brokenIn("long back(", "LOST + OUTSIDE", "OUTSIDE");
        all.in("Promise 18");
        all.says("PILE.")
            .by(EdgesOfHeapsTest::pileAtWholeInches, EdgesOfHeapsTest::pileOfNobody)
            .brokenIn("long pile(", "asked.atWholeInches(), asked.total,", "asked.total, asked.atWholeInches(),")
            .brokenIn("long pile(", "asked.atWholeInches()", "now.books[0].atWholeInches()");
        all.refuses("pile", "UNKNOWN, OUTSIDE (LOST less 1, 2).")
            .brokenIn("long pile(", "LOST + UNKNOWN", "UNKNOWN")
            .brokenIn("long pile(", "LOST + OUTSIDE", "OUTSIDE")
            .brokenIn("long pile(", "!isPart(part)", "part < 0");
    }

    private static void youngOnes(Sentences all) {
        all.in("Promise 19");
        all.says("GROWN of a BOOK: the sum by what is said (what = 0), the mean (1).")
            .by(EdgesOfHeapsTest::grownBelow23, EdgesOfHeapsTest::liedTenths, EdgesOfHeapsTest::liedAtTheEnds)
            .brokenIn("long grown(", "if (what == 0)", "if (what == 1)")
            .brokenIn("long grown(", "asked.entry(AGE)", "asked.entry(AGE) - 1")
            .brokenIn("long grown(", "now.tenthsGrown(asked), TENTHS", "now.tenthsGrown(asked), 1");
        all.refuses("grown", "UNKNOWN, OUTSIDE.")
            .brokenIn("long grown(", "LOST + UNKNOWN", "LOST + OUTSIDE")
            .brokenIn("long grown(", "LOST + OUTSIDE", "LOST + UNKNOWN")
            .brokenIn("long grown(", "!within(what, 0, 1) ||", "")
            .brokenIn("long grown(", "|| !isPart(part)", "");
        all.in("Promise 20");
        all.says("RIGHT.")
            .by(EdgesOfHeapsTest::rightIsBoth)
            .brokenIn("long right(", "(long) TENTHS * undoing.middle +", "(long) undoing.middle +")
            .brokenIn("long right(", "+ now", "- now")
            .brokenIn("long right(", "seekMiddle(asked, w);", "seekMiddle(now.books[1], w);");
        all.refuses("right", "UNKNOWN, OUTSIDE.")
            .brokenIn("long right(", "LOST + UNKNOWN", "LOST + OUTSIDE")
            .brokenIn("long right(", "LOST + OUTSIDE", "LOST + UNKNOWN")
            .brokenIn("long right(", "!isWidth(w) ||", "")
            .brokenIn("long right(", "|| !isPart(part)", "");
    }

    private static void sorts(Sentences all) {
        all.in("Promise 21");
        all.says("MIX.")
            .by(EdgesOfSortsTest::mixFromTheLineOn, EdgesOfSortsTest::mixByShares,
                EdgesOfSortsTest::mixBeyondTheEnds)
            .brokenIn("long mix(", "one, two, w, line);", "two, one, w, line);")
            .brokenIn("long mix(", "one, two, w, line);", "one, two, w, 0);")
            .brokenIn("long mix(", "sorts.count(g)", "sorts.count(50)");
        all.refuses("mix", "OUTSIDE; NO: nobody is of the line or more (LOST less 2, 5).")
            .by(EdgesOfSortsTest::mixOfNobody, LaterRefusalsTest::nobodyAtTheLine)
            .brokenIn("long mix(", "LOST + OUTSIDE", "LOST + NO")
            .brokenIn("long mix(", "LOST + NO", "LOST + OUTSIDE")
            .brokenIn("long mix(", "sorts.lack(g)", "sorts.lack(50)")
            .brokenIn("long mix(", "sorts.lack(g)", "sorts.lack(0) || sorts.lack(g)")
            .brokenIn("long mix(", "|| !isShare(g)", "|| g < 0")
            .brokenIn("long mix(", "|| !isPart(part)", "")
            .brokenIn("boolean areSorts(", "isHump(one, w)", "isWidth(w)")
            .brokenIn("boolean areSorts(", "&& isHeight(two)", "")
            .brokenIn("boolean areSorts(", "&& isHeight(line)", "");
        all.in("Promise 22");
        all.says("FALL from a share to another one: a fraction, perhaps below 0.")
            .by(EdgesOfSortsTest::fallBothWays)
            .brokenIn("long fall(", "tellFall(sorts, g, h, part)", "tellFall(sorts, h, g, part)")
            .brokenIn("long fall(", "tellFall(sorts, g, h, part)", "Math.abs(tellFall(sorts, g, h, part))")
            .brokenIn("long fall(", "tellFall(sorts, g, h, part)", "tell(sorts.sum(g), sorts.count(g), part)");
        all.refuses("fall", "OUTSIDE; NO: of either.")
            .by(EdgesOfSortsTest::fallWithoutAMix, LaterRefusalsTest::nobodyAtTheLine)
            .brokenIn("long fall(", "sorts.lack(g) ||", "")
            .brokenIn("long fall(", "|| sorts.lack(h)", "")
            .brokenIn("long fall(", "sorts.lack(g) || sorts.lack(h)", "sorts.lack(g) && sorts.lack(h)")
            .brokenIn("long fall(", "!areSorts(one, two, w, line) ||", "")
            .brokenIn("long fall(", "|| !isShare(g)", "")
            .brokenIn("long fall(", "|| !isShare(h)", "")
            .brokenIn("long fall(", "|| !isPart(part)", "")
            .brokenIn("long fall(", "LOST + OUTSIDE", "LOST + NO");
        all.in("Promise 23");
        all.says("ALONE: shares that may be are told as 1000 times the least, and the greatest (0 to 100 each, the"
                + " least no more than the greatest): of the first, of the second one: the least (end = 0), the"
                + " greatest FALL (1), by part.")
            .by(EdgesOfSortsTest::sharesAsTold, EdgesOfSortsTest::sharesNotAsTold,
                EdgesOfSortsTest::aloneOfOneShareEach, EdgesOfSortsTest::aloneEnds)
            .broken("LEAST_SHARE = 1000", "LEAST_SHARE = 100")
            .brokenIn("long alone(", "int g = shares / LEAST_SHARE;", "int g = shares % LEAST_SHARE;")
            .brokenIn("long alone(", "int h = shares % LEAST_SHARE;", "int h = shares / LEAST_SHARE;")
            .brokenIn("long alone(", "int j = then % LEAST_SHARE;", "int j = then / LEAST_SHARE;")
            .brokenIn("long alone(", "if (end == 0)", "if (end == 1)")
            .brokenIn("boolean areShares(", "least <= greatest", "least < greatest")
            .brokenIn("boolean areShares(", "&& least <= greatest", "")
            .brokenIn("boolean areShares(", "greatest <= ALL_SHARES", "greatest < ALL_SHARES")
            .brokenIn("boolean areShares(", "&& greatest <= ALL_SHARES", "");
        all.refuses("alone", "OUTSIDE; NO: some MIX is not (LOST less 2, 5).")
            .by(EdgesOfSortsTest::aloneWithoutAMix, LaterRefusalsTest::nobodyAtTheLine)
            .brokenIn("long alone(", "sorts.lack(g) ||", "")
            .brokenIn("long alone(", "sorts.lack(h) ||", "")
            .brokenIn("long alone(", "sorts.lack(i) ||", "")
            .brokenIn("long alone(", "|| sorts.lack(j)", "")
            .brokenIn("long alone(", "!areSorts(one, two, w, line) ||", "")
            .brokenIn("long alone(", "|| !areShares(shares)", "")
            .brokenIn("long alone(", "|| !areShares(then)", "")
            .brokenIn("long alone(", "|| !within(end, 0, 1)", "")
            .brokenIn("long alone(", "|| !isPart(part)", "")
            .brokenIn("long alone(", "LOST + OUTSIDE", "LOST + NO")
            .brokenIn("long alone(", "LOST + NO", "LOST + OUTSIDE");
    }

    private static void means(Sentences all) {
        all.in("Promise 24");
        all.says("MEAN.")
            .by(EdgesOfSortsTest::meanOfAll, EdgesOfSortsTest::meanOfNobody)
            .brokenIn("long mean(", "asked.total, part", "MOST_MEN, part")
            .brokenIn("long mean(", "asked.sumMoved(0)", "asked.commonest() * (long) asked.total")
            .brokenIn("long mean(", "asked.sumMoved(0)", "now.books[0].sumMoved(0)");
        all.refuses("mean", "UNKNOWN, OUTSIDE.")
            .brokenIn("long mean(", "LOST + UNKNOWN", "LOST + OUTSIDE")
            .brokenIn("long mean(", "LOST + OUTSIDE", "LOST + UNKNOWN")
            .brokenIn("long mean(", "!isPart(part)", "part > 1");
        all.in("Promise 25");
        all.says("MODE; NONE: no MEN.")
            .by(EdgesOfSortsTest::modeIsTheFirst, EdgesOfSortsTest::modeOfNobody)
            .brokenIn("int mode(", "asked.total == 0 ? NONE :", "")
            .brokenIn("int mode(", "asked.total == 0 ? NONE", "asked.commonest() == 0 ? NONE")
            .brokenIn("int mode(", "asked.commonest()", "now.books[0].commonest()");
        all.refuses("mode", "UNKNOWN.")
            .brokenIn("int mode(", "return UNKNOWN;", "return NONE;")
            .brokenIn("int mode(", "return UNKNOWN;", "return OUTSIDE;");
    }

    private static void kinds(Sentences all) {
        all.in("Promise 26");
        all.says("ABOUT: the least (end = 0), the greatest (1) mean.")
            .by(EdgesOfSortsTest::aboutByQuarters, EdgesOfSortsTest::aboutHeldTo0, EdgesOfSortsTest::aboutHeldTo63,
                EdgesOfSortsTest::aboutOfNobody)
            .brokenIn("long about(", "end == 0", "end == 1")
            .brokenIn("long about(", "asked.total, part", "MOST_MEN, part")
            .brokenIn("long about(", "return tell(", "return asked.total == 0 ? LOST + NONE : tell(");
        all.refuses("about", "UNKNOWN, OUTSIDE, STATE: its KIND is not 2 (LOST less 1, 2, 3).")
            .by(EdgesOfSortsTest::aboutByKind, LaterRefusalsTest::otherKinds)
            .brokenIn("long about(", "LOST + UNKNOWN", "LOST + STATE")
            .brokenIn("long about(", "LOST + OUTSIDE", "LOST + STATE")
            .brokenIn("long about(", "LOST + STATE", "LOST + NO")
            .brokenIn("long about(", "asked.entry(KIND) != ABOUT_SO", "asked.entry(KIND) == BY_LINE")
            .brokenIn("long about(", "asked.entry(KIND) != ABOUT_SO", "asked.entry(KIND) == BY_LOT")
            .brokenIn("long about(", "!within(quarters, 0, MOST_ABOUT) ||", "")
            .brokenIn("long about(", "|| !within(end, 0, 1)", "")
            .brokenIn("long about(", "|| !isPart(part)", "");
        all.in("Promise 27");
        all.says("BESIDE: a fraction, perhaps below 0.")
            .by(EdgesOfSortsTest::besideBelow0)
            .brokenIn("long beside(", "return tell(asked.sumMoved(0) - undoing.middle * all",
                "return tell(Math.abs(asked.sumMoved(0) - undoing.middle * all)")
            .brokenIn("long beside(", "all, all, part", "all, 1, part");
        all.refuses("beside", "UNKNOWN, OUTSIDE, STATE: the first one's KIND is not 1, or it has no MEN.")
            .by(EdgesOfSortsTest::besideByItsState, EdgesOfSortsTest::refusalsOfBoth,
                LaterRefusalsTest::otherKinds)
            .brokenIn("long beside(", "LOST + UNKNOWN", "LOST + OUTSIDE")
            .brokenIn("long beside(", "LOST + OUTSIDE", "LOST + UNKNOWN")
            .brokenIn("long beside(", "LOST + STATE", "LOST + NO")
            .brokenIn("long beside(", "asked.entry(KIND) != BY_LOT", "second.entry(KIND) != BY_LOT")
            .brokenIn("long beside(", "asked.entry(KIND) != BY_LOT", "asked.entry(KIND) == BY_LINE")
            .brokenIn("long beside(", "|| asked.total == 0", "")
            .brokenIn("long beside(", "asked.total == 0", "second.total == 0")
            .brokenIn("long beside(", "asked == null ||", "")
            .brokenIn("long beside(", "|| second == null", "")
            .brokenIn("long beside(", "!isWidth(w) ||", "")
            .brokenIn("long beside(", "|| !isPart(part)", "");
        all.in("Promise 28");
        all.says("SHORTER.")
            .by(EdgesOfSortsTest::shorterAtTheEnds, EdgesOfSortsTest::shorterOfTheSame,
                EdgesOfSortsTest::shorterByItsLine)
            .brokenIn("int shorter(", "seekSpan(asked, w, slack);", "seekSpan(second, w, slack);")
            .brokenIn("int shorter(", "seekSpan(second, w, slack);", "");
        all.refuses("shorter", "UNKNOWN; OUTSIDE.")
            .by(EdgesOfSortsTest::refusalsOfBoth)
            .brokenIn("int shorter(", "return UNKNOWN;", "return OUTSIDE;")
            .brokenIn("int shorter(", "return OUTSIDE;", "return UNKNOWN;")
            .brokenIn("int shorter(", "asked == null ||", "")
            .brokenIn("int shorter(", "|| second == null", "")
            .brokenIn("int shorter(", "!isWidth(w) ||", "")
            .brokenIn("int shorter(", "|| !within(slack, 0, MOST_SLACK)", "|| slack > MOST_SLACK");
    }

    private static void worlds(Sentences all) {
        all.in("Promise 29");
        all.says("MADE: how many were taken.")
            .by(EdgesOfWorldsTest::seedsAndDraws, EdgesOfWorldsTest::menGo, EdgesOfWorldsTest::leakDraw,
                EdgesOfWorldsTest::whoIsOutside)
            .brokenIn("int make(", "maker.fill(asked, now, seed, m, w, n) :",
                "maker.fill(asked, now, seed, m, w, n) * 0 + n :")
            .brokenIn("int make(", "maker.fill(asked, now,", "maker.fill(trial, now,")
            .brokenIn("int fill(", "book.menAt(at) + 1", "1");
        all.refuses("make", "UNKNOWN; OUTSIDE.")
            .brokenIn("int make(", "return UNKNOWN;", "return OUTSIDE;")
            .brokenIn("int make(", ": OUTSIDE", ": UNKNOWN")
            .brokenIn("int make(", "isWorld(seed, m, w, n)", "isHump(m, w) && within(n, 1, MOST_MADE)")
            .brokenIn("int make(", "isWorld(seed, m, w, n)", "isWorld(seed, m, w, 1)")
            .brokenIn("boolean isWorld(", "isHump(m, w)", "isWidth(w)")
            .brokenIn("boolean isWorld(", "isHump(m, w)", "isHeight(m)");
        all.in("Promise 30");
        all.says("OFF of a rule of undoing (0 to 3).")
            .by(EdgesOfWorldsTest::offOfSomeWorlds, EdgesOfWorldsTest::offIsFar)
            .broken("UNDOINGS = 4", "UNDOINGS = 3")
            .broken("UNDOINGS = 4", "UNDOINGS = 5")
            .brokenIn("int off(", "n, worlds, rule);", "n, worlds, 3 - rule);")
            .brokenIn("int off(", "n, worlds, rule);", "n, 1, rule);");
        all.refuses("off", "UNKNOWN; OUTSIDE.")
            .brokenIn("int off(", "return UNKNOWN;", "return OUTSIDE;")
            .brokenIn("int off(", "return OUTSIDE;", "return UNKNOWN;")
            .brokenIn("int off(", "!isWorld(seed, m, w, n) ||", "!isHump(m, w) ||")
            .brokenIn("int off(", "|| !within(worlds, 1, MOST_WORLDS)", "|| worlds > MOST_WORLDS")
            .brokenIn("int off(", "|| !within(rule, 0, UNDOINGS - 1)", "|| rule < 0");
        all.in("Promise 31");
        all.says("BEST rule.")
            .by(EdgesOfWorldsTest::bestIsTheFirst)
            .brokenIn("int best(", "return rule;", "return least;")
            .brokenIn("int best(", "n, worlds, other);", "n, 1, other);")
            .brokenIn("int best(", "rule = other;", "");
        all.refuses("best", "UNKNOWN; OUTSIDE.")
            .brokenIn("int best(", "return UNKNOWN;", "return OUTSIDE;")
            .brokenIn("int best(", "return OUTSIDE;", "return UNKNOWN;")
            .brokenIn("int best(", "!isWorld(seed, m, w, n) ||", "!isHump(m, w) ||")
            .brokenIn("int best(", "|| !within(worlds, 1, MOST_WORLDS)", "|| worlds < 1");
    }

    private static void images(Sentences all) {
        all.in("Promise 32");
        all.says("All but signs is kept in an IMAGE (0, 1): 1.")
            .by(EdgesOfWorldsTest::imageOfNothing, EdgesOfWorldsTest::allButSigns, EdgesOfWorldsTest::imagesAreTwo,
                EdgesOfWorldsTest::imageKeptAgain)
            .broken("IMAGES = 2", "IMAGES = 1")
            .broken("IMAGES = 2", "IMAGES = 3")
            .brokenIn("int image(", "return 1;", "return n;")
            .brokenIn("int image(", "images[n].copyFrom(now);", "images[0].copyFrom(now);")
            .brokenIn("int image(", "images[n].copyFrom(now);", "if (!kept[n]) { images[n].copyFrom(now); }")
            .brokenIn("int image(", "kept[n] = true;", "kept[0] = true;")
            .brokenIn("void copyFrom(Holding", "rule.copyFrom(other.rule);", "")
            .brokenIn("void copyFrom(Holding", "growth.copyFrom(other.growth);", "")
            .brokenIn("void copyFrom(Holding", "System.arraycopy(other.ways, 0, ways, 0, ways.length);", "")
            .brokenIn("void copyFrom(Holding", "System.arraycopy(other.ways, 0, ways, 0, ways.length);",
                "System.arraycopy(other.ways, 0, ways, 0, LIED);")
            .brokenIn("void copyFrom(Holding", "i < books.length", "i < books.length - 1")
            .brokenIn("void copyFrom(Book", "copyEntries(other);", "")
            .brokenIn("void copyFrom(Book", "System.arraycopy(other.men, 0, men, 0, men.length);", "")
            .brokenIn("void copyFrom(Book", "total = other.total;", "")
            .brokenIn("int image(", "kept[n] = true;", "kept[n] = true; pad.clear();");
        all.refuses("image", "OUTSIDE.")
            .brokenIn("int image(", "return OUTSIDE;", "return STATE;")
            .brokenIn("boolean isImage(", "within(n, 0, IMAGES - 1)", "within(n, 0, IMAGES)")
            .brokenIn("boolean isImage(", "within(n, 0, IMAGES - 1)", "n < IMAGES");
        all.in("Promise 33");
        all.says("It is as it was when it was kept: 1.")
            .by(EdgesOfWorldsTest::restoreKeepsTheImage, EdgesOfWorldsTest::allButSigns,
                EdgesOfWorldsTest::imagesAreTwo)
            .brokenIn("int restore(", "return 1;", "return n;")
            .brokenIn("int restore(", "now.copyFrom(images[n]);", "")
            .brokenIn("int restore(", "now.copyFrom(images[n]);", "now.copyFrom(images[0]);")
            .brokenIn("int restore(", "now.copyFrom(images[n]);", "now.copyFrom(images[n]); kept[n] = false;")
            .brokenIn("int restore(", "now.copyFrom(images[n]);", "now.copyFrom(images[n]); pad.clear();");
        all.refuses("restore", "OUTSIDE; STATE: it was not.")
            .by(EdgesOfWorldsTest::imagesAreTwo, LaterRefusalsTest::notKept)
            .brokenIn("int restore(", "return OUTSIDE;", "return STATE;")
            .brokenIn("int restore(", "return STATE;", "return NO;")
            .brokenIn("int restore(", "!kept[n]", "!kept[0] && !kept[1]")
            .brokenIn("int restore(", "!isImage(n)", "n < 0");
    }

    private static void told(Sentences all) {
        all.in("Promise 34");
        all.says("0 signs, 1 CASES, 2 ITEMS, 3 to 7 what way() sets, 10 to 15 MEN of BOOKS, 20 to 25 YEARS,"
                + " 30 to 35 AGES, 40 to 45 KINDS.")
            .by(EdgesOfWorldsTest::toldOfTexts, EdgesOfWorldsTest::toldOfBooks)
            .brokenIn("int told(", "return pad.count;", "return now.rule.count;")
            .brokenIn("int told(", "return now.rule.pieces();", "return now.rule.count;")
            .brokenIn("int told(", "return now.growth.pieces();", "return now.rule.pieces();")
            .brokenIn("int told(", "now.wayOf(what - 3)", "now.wayOf(7 - what)")
            .brokenIn("int told(", "what < 20 ? asked.total", "what < 20 ? asked.menAt(0)")
            .brokenIn("int told(", "asked.entry(what / 10 - 2)", "asked.entry(4 - what / 10)")
            .brokenIn("int told(", "now.bookAt(what % 10)", "now.bookAt(what % 10 / 2)");
        all.refuses("told", "OUTSIDE.")
            .by(EdgesOfWorldsTest::toldBetween)
            .brokenIn("int told(", "within(what, 3, 7)", "within(what, 3, 8)")
            .brokenIn("int told(", "within(what, 10, 45)", "within(what, -10, 45)")
            .brokenIn("int told(", "within(what, 10, 45)", "within(what, 10, 55)")
            .brokenIn("int told(", "return OUTSIDE;", "return UNKNOWN;");
    }
}
