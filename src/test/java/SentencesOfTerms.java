/** The sentences of the document's Terms and constants. */
final class SentencesOfTerms {
    private SentencesOfTerms() {
    }

    static void add(Sentences all) {
        refusalsAndFractions(all);
        books(all);
        texts(all);
        humps(all);
        undoing(all);
        heaps(all);
        youngOnes(all);
        sorts(all);
        means(all);
        worlds(all);
        rulesOfUndoing(all);
        constants(all);
    }

    private static void refusalsAndFractions(Sentences all) {
        all.in("Terms");
        all.says("Calls that are refused answer, the first of these that fits: UNKNOWN -1 (there is no such BOOK),"
                + " OUTSIDE -2 (another number is not as told), STATE -3 (as told), NO -5 (as told), FULL -4.")
            .by(() -> RefusalsTest.refusalsOf("men"), LaterRefusalsTest::fullPad, LaterRefusalsTest::faults,
                LaterRefusalsTest::nobodyAtTheLine, LaterRefusalsTest::otherKinds, LaterRefusalsTest::notKept)
            .broken("UNKNOWN = -1, OUTSIDE = -2", "UNKNOWN = -2, OUTSIDE = -1")
            .broken("STATE = -3", "STATE = -7")
            .broken("FULL = -4", "FULL = -7")
            .broken("NO = -5", "NO = -7")
            .brokenIn("int men(", "Book asked",
                "if (!isHeight(height)) { return OUTSIDE; } Book asked")
            .brokenIn("long about(", "if (!within(quarters",
                "if (asked.entry(KIND) != ABOUT_SO) { return LOST + STATE; } if (!within(quarters")
            .brokenIn("long beside(", "if (asked == null",
                "if (asked != null && asked.total == 0) { return LOST + STATE; } if (asked == null")
            .brokenIn("long mix(", "if (!areSorts",
                "if (areSorts(one, two, w, line) && new Sorts(humps, one, two, w, line).lack(g))"
                + " { return LOST + NO; } if (!areSorts")
            .brokenIn("int say(", "if (!within", "if (pad.count == SIGNS) { return FULL; } if (!within");
        all.says("They change nothing.")
            .by(() -> RefusalsTest.refusalsOf("men"), () -> RefusalsTest.refusalsOf("set"),
                () -> RefusalsTest.refusalsOf("way"), () -> RefusalsTest.refusalsOf("make"),
                () -> RefusalsTest.refusalsOf("off"), () -> RefusalsTest.refusalsOf("image"),
                LaterRefusalsTest::fullPad, LaterRefusalsTest::faults, LaterRefusalsTest::notKept)
            .brokenIn("int men(", "return OUTSIDE;", "asked.clearMen(); return OUTSIDE;")
            .brokenIn("int set(", "return OUTSIDE;", "asked.enter(YEAR, 1); return OUTSIDE;")
            .brokenIn("int way(", "return OUTSIDE;", "now.turn(HEAP, 0); return OUTSIDE;")
            .brokenIn("int say(", "return pad.add(sign) ? pad.count : FULL;",
                "if (pad.add(sign)) { return pad.count; } pad.clear(); return FULL;")
            .brokenIn("int take(", "return NO;", "pad.clear(); return NO;")
            .brokenIn("int make(", "return UNKNOWN;", "now.books[0].clearMen(); return UNKNOWN;")
            .brokenIn("int off(", "return OUTSIDE;", "asked.clearMen(); return OUTSIDE;")
            .brokenIn("int image(", "return OUTSIDE;", "images[0].copyFrom(now); return OUTSIDE;")
            .brokenIn("int restore(", "return STATE;", "now.copyFrom(images[n]); return STATE;");
        all.says("Quotients are cut.")
            .by(EdgesOfHumpsTest::expectedIsCut, EdgesOfWorldsTest::offIsFar)
            .broken("book.total * parts[height] / all", "(book.total * parts[height] + all - 1) / all")
            .broken("book.sumMoved(0) / book.total", "(book.sumMoved(0) + book.total / 2) / book.total");
        all.says("Fractions are told by part: 0 the upper, 1 the lower number, in lowest terms (0 by 1 for nothing);"
                + " refused with LOST and the refusal.")
            .by(EdgesOfSortsTest::meanOfAll, EdgesOfSortsTest::meanOfNobody, EdgesOfSortsTest::fallBothWays,
                () -> RefusalsTest.refusalsOf("mean"))
            .brokenIn("long tell(", "part == 0 ? upper : lower", "part == 0 ? lower : upper")
            .brokenIn("long tell(", "/ commonDivisor(Math.abs(upper), lower)", "")
            .brokenIn("long tell(", "Math.abs(upper)", "upper")
            .brokenIn("long tell(", "return part == 0 ? 0 : 1;", "return 0;")
            .brokenIn("long mean(", "LOST + OUTSIDE", "OUTSIDE")
            .brokenIn("long mean(", "LOST + UNKNOWN", "LOST");
    }

    private static void books(Sentences all) {
        all.in("Terms 1");
        all.says("HEIGHTS are in QUARTERS of an inch, 0 to 63 (whole inches: 0, 4, 8, ...).")
            .by(EdgesOfBooksTest::menOfEachHeight, EdgesOfHeapsTest::pileAtWholeInches,
                EdgesOfHeapsTest::nearestWholeInch, () -> RefusalsTest.refusalsOf("men"))
            .broken("HEIGHTS = 64, TALLEST = 63", "HEIGHTS = 63, TALLEST = 62")
            .broken("HEIGHTS = 64, TALLEST = 63", "HEIGHTS = 65, TALLEST = 64")
            .broken("INCH = 4", "INCH = 8");
        all.says("BOOKS 0 to 5 have a YEAR (0 to 99; 0 at first), an AGE (14 to 40; 25 at first), a KIND"
                + " (0 by the line, 1 all by lot, 2 about so; 0 at first), and how many MEN of each HEIGHT"
                + " (0 to 999 each; 0 at first).")
            .by(EdgesOfBooksTest::newBooksAreEmpty, EdgesOfBooksTest::newEntriesAndWays,
                EdgesOfBooksTest::yearAgeKind, EdgesOfBooksTest::entriesAreTheBooksOwn,
                EdgesOfBooksTest::menUpTo999, EdgesOfBooksTest::menOfEachHeight, EdgesOfBooksTest::lineByKind,
                EdgesOfSortsTest::aboutByKind, EdgesOfSortsTest::besideByItsState,
                () -> RefusalsTest.refusalsOf("men"))
            .broken("BOOKS = 6", "BOOKS = 5")
            .broken("BOOKS = 6", "BOOKS = 7")
            .broken("LEAST_ENTRY = {0, 14, 0}", "LEAST_ENTRY = {1, 14, 0}")
            .broken("LEAST_ENTRY = {0, 14, 0}", "LEAST_ENTRY = {0, 13, 0}")
            .broken("LEAST_ENTRY = {0, 14, 0}", "LEAST_ENTRY = {0, 14, -1}")
            .broken("FIRST_ENTRY = {0, 25, 0}", "FIRST_ENTRY = {1, 25, 0}")
            .broken("FIRST_ENTRY = {0, 25, 0}", "FIRST_ENTRY = {0, 24, 0}")
            .broken("FIRST_ENTRY = {0, 25, 0}", "FIRST_ENTRY = {0, 25, 1}")
            .broken("MOST_ENTRY = {99, 40, 2}", "MOST_ENTRY = {98, 40, 2}")
            .broken("MOST_ENTRY = {99, 40, 2}", "MOST_ENTRY = {99, 41, 2}")
            .broken("MOST_ENTRY = {99, 40, 2}", "MOST_ENTRY = {99, 40, 3}")
            .broken("BY_LINE = 0, BY_LOT = 1", "BY_LINE = 1, BY_LOT = 0")
            .broken("BY_LOT = 1, ABOUT_SO = 2", "BY_LOT = 2, ABOUT_SO = 1")
            .broken("MOST_MEN = 999", "MOST_MEN = 998")
            .broken("MOST_MEN = 999", "MOST_MEN = 1000");
    }

    private static void texts(Sentences all) {
        all.says("THE RULE is a text of up to 60 signs (codes 33 to 126; none at first): one CASE or more, with a ;"
                + " between two: * or TESTS with a & between two (y the YEAR, or a the AGE; <, > or =;"
                + " 1 or 2 digits), :, 1 or 2 digits.")
            .by(EdgesOfBooksTest::newTextsAndPad, EdgesOfBooksTest::everySign, EdgesOfBooksTest::sixtySigns,
                EdgesOfBooksTest::signsOfARule, EdgesOfBooksTest::oneOrTwoDigits,
                EdgesOfBooksTest::faultOfSixtySigns, EdgesOfBooksTest::lineAtItsTests)
            .broken("SIGNS = 60", "SIGNS = 59")
            .broken("SIGNS = 60", "SIGNS = 61")
            .broken("within(sign, 33, 126)", "within(sign, 34, 126)")
            .broken("within(sign, 33, 126)", "within(sign, 33, 127)")
            .broken("trial = new Book();", "trial = new Book(); now.rule.add('*');")
            .broken("sign == '*' ? STAR : beginTest(sign)", "beginTest(sign)")
            .broken("sign == ':' ? SAYS : STUCK; case SAYS", "sign == '&' ? TEST : STUCK; case SAYS")
            .broken("sign == 'y' || sign == 'a' ? NAMED", "sign == 'y' ? NAMED")
            .broken("sign == '<' || sign == '>' || sign == '=' ?", "sign == '<' || sign == '>' ?")
            .broken("isDigit(sign) ? BOUND_2 : endTest(sign)", "endTest(sign)")
            .broken("case BOUND_2: return endTest(sign)",
                "case BOUND_2: return isDigit(sign) ? BOUND_2 : endTest(sign)")
            .broken("isDigit(sign) ? SAID_2 : endPiece(sign, CASE)", "endPiece(sign, CASE)")
            .broken("case SAID_2: return endPiece(sign, CASE)",
                "case SAID_2: return isDigit(sign) ? SAID_2 : endPiece(sign, CASE)")
            .brokenIn("int endTest(", "return TEST;", "return CASE;")
            .brokenIn("int endPiece(", "sign == ';'", "sign == ','")
            .broken("named = sign == 'y' ? year : age", "named = sign == 'y' ? age : year")
            .broken("named < number", "named <= number")
            .broken("named > number", "named >= number")
            .broken("return named == number", "return named >= number")
            .broken("fits = fits && holds(", "fits = holds(");
        all.says("LINE of a BOOK: what the first CASE that fits says (63 at most); 0, if none does,"
                + " or its KIND is 1 or 2.")
            .by(EdgesOfBooksTest::lineOfTheFirstCase, EdgesOfBooksTest::lineAtMost63,
                EdgesOfBooksTest::lineOfNoCase, EdgesOfBooksTest::lineByKind)
            .brokenIn("int lineBy(", "} else if (fits) {", "} else if (fits && i > 4) {")
            .brokenIn("int lineBy(", "fits = true; number = 0; }", "number = 0; }")
            .brokenIn("int lineBy(", "return fits ? number : 0;", "return number;")
            .brokenIn("int lineOf(", "Math.min(TALLEST, ", "Math.min(TALLEST + 1, ")
            .brokenIn("int lineOf(", "book.entry(KIND) != BY_LINE", "book.entry(KIND) == BY_LOT")
            .brokenIn("int lineOf(", "book.entry(KIND) != BY_LINE", "book.entry(KIND) == ABOUT_SO");
        all.says("GROWTH is a text of up to 60 signs (none at first): one ITEM or more, with a ; between two:"
                + " 1 or 2 digits (an AGE), :, a digit (QUARTERS that one grows from that AGE to the next;"
                + " of two ITEMS of one AGE the first counts).")
            .by(EdgesOfBooksTest::newTextsAndPad, EdgesOfBooksTest::signsOfGrowth,
                EdgesOfBooksTest::oneOrTwoDigits, EdgesOfBooksTest::faultOfSixtySigns,
                EdgesOfHeapsTest::grownByTheFirstItem, EdgesOfHeapsTest::grownWithoutItems)
            .broken("SIGNS = 60", "SIGNS = 59")
            .broken("trial = new Book();", "trial = new Book(); now.growth.add('1');")
            .broken("isDigit(sign) ? AGE_2 : endAge(sign)", "endAge(sign)")
            .broken("case AGE_2: return endAge(sign)", "case AGE_2: return isDigit(sign) ? AGE_2 : endAge(sign)")
            .broken("return endPiece(sign, ITEM)", "return isDigit(sign) ? GROWN : endPiece(sign, ITEM)")
            .broken("return endPiece(sign, ITEM)", "return STUCK")
            .broken("case GROWS: return isDigit(sign) ? GROWN", "case GROWS: return sign > '0' ? GROWN")
            .brokenIn("int growthAt(", "} else if (named == age) {", "} else if (named == age && number > 0) {")
            .brokenIn("int growthAt(", "} else if (named == age) {", "} else if (named < 0) {")
            .brokenIn("int growthAt(", "return named == age ? number : 0;", "return number;");
        all.says("THE FAULT: the place (from 0 on) of the first sign that can not stand there; the number of signs,"
                + " if more must come.")
            .by(EdgesOfBooksTest::moreMustCome, EdgesOfBooksTest::theFirstFaultCounts)
            .brokenIn("int faultOf(", "return i;", "return i + 1;")
            .brokenIn("int faultOf(", "return i;", "return text.count - 1;")
            .brokenIn("int faultOf(", ": text.count;", ": text.count - 1;")
            .brokenIn("int faultOf(", "state == SAID_1 || state", "state");
    }

    private static void humps(Sentences all) {
        all.in("Terms 2");
        all.says("HUMP of a MIDDLE m (0 to 63) and a WIDTH w (1 to 8): of 4 to the power w men as many of HEIGHT h"
                + " as there are ways to choose h less m and w of 2w (none, if that is not 0 to 2w);"
                + " those outside 0 to 63 are not there, nor counted.")
            .by(EdgesOfHumpsTest::humpEnds, EdgesOfHumpsTest::humpOfEachWidth,
                EdgesOfHumpsTest::humpBeyondTheEnds, EdgesOfHumpsTest::upperBeyondTheEnds,
                () -> RefusalsTest.refusalsOf("hump"))
            .broken("WIDEST = 8", "WIDEST = 7")
            .broken("WIDEST = 8", "WIDEST = 9")
            .brokenIn("boolean isWidth(", "within(w, 1,", "within(w, 0,")
            .brokenIn("boolean isHump(", "isHeight(m)", "m >= 0")
            .broken("ways * (2 * w - k) / (k + 1)", "ways * (2 * w - k) / (k + 2)")
            .brokenIn("int waysOf(", "k > 2 * w ?", "k >= 2 * w ?")
            .brokenIn("int menAt(int m", "height - m + w", "height - m + w - 1")
            .brokenIn("int menAt(int m", "height > TALLEST ? 0", "height > TALLEST + 8 ? 0");
        all.says("UPPER of it from a line on: men of that HEIGHT or more; their part of all of the HUMP, their mean.")
            .by(EdgesOfHumpsTest::upperFromTheLineOn, EdgesOfHumpsTest::upperOfAll,
                EdgesOfHumpsTest::upperBeyondTheEnds)
            .brokenIn("long countFrom(", "Math.max(line,", "Math.max(line + 1,")
            .brokenIn("long countFrom(", "height <= m + w", "height < m + w")
            .brokenIn("long sumFrom(", "Math.max(line,", "Math.max(line + 1,")
            .brokenIn("long sumFrom(", "(long) height *", "(long) (height - line) *")
            .brokenIn("long upper(", "humps.countFrom(m, w, 0)", "1L << 2 * w");
    }

    private static void undoing(Sentences all) {
        all.says("MISFIT of a BOOK with a HUMP and a line: LEAK is tenths (0 to 9; 0 at first): men below the line are"
                + " taken for so many tenths: each HEIGHT's part is its men times 10 (at the line or above), times"
                + " LEAK (below); what is EXPECTED: all MEN of the BOOK times that part by all parts together, cut;"
                + " the sum of how far each HEIGHT's MEN are from it; NO, if all parts are 0.")
            .by(EdgesOfBooksTest::newEntriesAndWays, EdgesOfBooksTest::tenthsAndQuarters,
                EdgesOfHumpsTest::partsAtTheLine, EdgesOfHumpsTest::expectedIsCut,
                EdgesOfHumpsTest::leakBelowTheLine, EdgesOfHumpsTest::misfitWithoutParts,
                EdgesOfHumpsTest::misfitBeyondTheEnds, EdgesOfHumpsTest::misfitOfNobodyAndOfAll)
            .broken("MOST_WAY = {9, 9,", "MOST_WAY = {10, 9,")
            .broken("trial = new Book();", "trial = new Book(); now.turn(LEAK, 1);")
            .brokenIn("int misfitOf(", "height >= line", "height > line")
            .brokenIn("int misfitOf(", "TENTHS : leak", "TENTHS : 0")
            .brokenIn("int misfitOf(", "TENTHS : leak", "1 : leak")
            .brokenIn("int misfitOf(", "(long) humps.menAt(m, w, height) *", "(long)")
            .brokenIn("int misfitOf(", "book.total * parts", "men * parts")
            .brokenIn("int misfitOf(", "parts[height] / all", "parts[height] / all + 1")
            .brokenIn("int misfitOf(", "Math.abs(men - book", "(men - book")
            .brokenIn("int misfitOf(", "long sum = book.total;", "long sum = 0;")
            .brokenIn("int misfitOf(", "return NO;", "return 0;");
        all.says("FIT of a BOOK by a WIDTH: the MIDDLE by which MISFIT (with its LINE) is least, the first such.")
            .by(EdgesOfHumpsTest::fitIsTheFirst, EdgesOfHumpsTest::fitByItsLine,
                EdgesOfHumpsTest::noMiddleBeyondTheEnds)
            .brokenIn("void offer(", "so < misfit", "so <= misfit")
            .brokenIn("void offer(", "so < misfit", "so > misfit")
            .brokenIn("void seekMiddle(Book book, int w)", "now.lineOf(book)", "0")
            .brokenIn("void seekMiddle(Book book, int w, int line", "m = 0", "m = 1")
            .brokenIn("void seekMiddle(Book book, int w, int line", "m < HEIGHTS", "m < TALLEST");
        all.says("SPAN by a SLACK (0 to 999): from the least to the greatest MIDDLE whose MISFIT is no more than that"
                + " and the SLACK.")
            .by(EdgesOfHumpsTest::spanBySlack, EdgesOfHumpsTest::spanBySlackOf999,
                EdgesOfHumpsTest::spanWithoutMisfit)
            .broken("MOST_SLACK = 999", "MOST_SLACK = 998")
            .broken("MOST_SLACK = 999", "MOST_SLACK = 1000")
            .brokenIn("void seekSpan(Book book, int w, int line", "so <= misfit + slack", "so < misfit + slack")
            .brokenIn("void seekSpan(Book book, int w, int line", "so <= misfit + slack", "so <= slack")
            .brokenIn("void seekSpan(Book book, int w, int line", "so != NO && so", "so")
            .brokenIn("void seekSpan(Book book, int w, int slack", "now.lineOf(book)", "0")
            .brokenIn("void seekSpan(Book book, int w, int line", "Math.min(first, m)", "first")
            .brokenIn("void seekSpan(Book book, int w, int line", "Math.max(last, m)", "last");
        all.says("FOUND: the line (0 to 63) and MIDDLE by which it is least, the first line, then MIDDLE.")
            .by(EdgesOfHumpsTest::foundIsTheFirstLine, EdgesOfHumpsTest::foundIsTheFirstMiddle,
                EdgesOfHumpsTest::foundAtTheEnds, EdgesOfHumpsTest::noMiddleBeyondTheEnds,
                EdgesOfHumpsTest::foundByLeakNotByLine)
            .brokenIn("void seekLine(", "seekMiddle(book, w, 0, leak);", "seekMiddle(book, w, TALLEST, leak);")
            .brokenIn("void seekLine(", "at < HEIGHTS", "at < TALLEST")
            .brokenIn("void seekLine(", "Math.max(0, at - w)", "Math.max(0, at - w + 1)")
            .brokenIn("void seekLine(", "at + w - 1", "at - 1")
            .brokenIn("void offer(", "so < misfit", "so <= misfit")
            .brokenIn("void offer(", "line = at;", "");
    }

    private static void heaps(Sentences all) {
        all.in("Terms 3");
        all.says("HEAP (tenths, 0 to 9; 0 at first): of men who stand at no whole inch so many tenths are written at"
                + " the nearest one (of two as near the lower one; 63 at most).")
            .by(EdgesOfBooksTest::newEntriesAndWays, EdgesOfBooksTest::tenthsAndQuarters,
                EdgesOfHeapsTest::nearestWholeInch, EdgesOfHeapsTest::ofTwoAsNear, EdgesOfHeapsTest::heldTo63,
                EdgesOfHeapsTest::wholeInchesStay, EdgesOfHeapsTest::heapOf0And9)
            .broken("MOST_WAY = {9, 9,", "MOST_WAY = {9, 10,")
            .broken("trial = new Book();", "trial = new Book(); now.turn(HEAP, 1);")
            .brokenIn("int nearestInch(", "left <= INCH / 2", "left < INCH / 2")
            .brokenIn("int nearestInch(", "left <= INCH / 2", "left < INCH")
            .brokenIn("int nearestInch(", "Math.min(TALLEST, height - left + INCH)", "height - left + INCH")
            .brokenIn("int hundredths(", "stands % INCH == 0 ? 0 : wayOf(HEAP)",
                "stands % INCH == 1 ? 0 : wayOf(HEAP)")
            .brokenIn("int hundredths(", "(TENTHS - heaped)", "TENTHS");
        all.says("FAVOUR (0 to 4 QUARTERS; 0 at first) and its tenths (0 to 10; 0): of men who stand below the line by"
                + " no more than FAVOUR so many tenths are written at the line (ahead of HEAP; nobody who is favoured"
                + " is heaped).")
            .by(EdgesOfBooksTest::newEntriesAndWays, EdgesOfBooksTest::tenthsAndQuarters,
                EdgesOfHeapsTest::favourUpToItsQuarters, EdgesOfHeapsTest::favourOnlyBelowTheLine,
                EdgesOfHeapsTest::favourTenths, EdgesOfHeapsTest::favourAheadOfHeap)
            .broken("MOST_WAY = {9, 9, 4, 10, 10}", "MOST_WAY = {9, 9, 5, 10, 10}")
            .broken("MOST_WAY = {9, 9, 4, 10, 10}", "MOST_WAY = {9, 9, 4, 9, 10}")
            .broken("trial = new Book();", "trial = new Book(); now.turn(FAVOUR, 1);")
            .broken("trial = new Book();", "trial = new Book(); now.turn(FAVOURED, 1);")
            .brokenIn("int hundredths(", "line - stands <= wayOf(FAVOUR)", "line - stands < wayOf(FAVOUR)")
            .brokenIn("int hundredths(", "stands < line && line", "line")
            .brokenIn("int hundredths(", "near ? wayOf(FAVOURED) : 0", "near ? TENTHS : 0")
            .brokenIn("int hundredths(", "odds += (TENTHS - favoured) * heaped", "odds += TENTHS * heaped")
            .brokenIn("int hundredths(", "odds += TENTHS * favoured", "odds += (TENTHS - heaped) * favoured");
        all.says("WRITTEN: the odds that one who stands at a HEIGHT is written at another one (line 0: no FAVOUR).")
            .by(EdgesOfHeapsTest::allOddsTogether, EdgesOfHeapsTest::lineZero, EdgesOfHeapsTest::lineSixtyThree,
                EdgesOfHeapsTest::favourAtAWholeInch)
            .brokenIn("int hundredths(", "near = stands < line", "near = (line == 0 || stands < line)")
            .brokenIn("int hundredths(", "if (at == stands)", "if (at == stands && line != 63)")
            .brokenIn("int hundredths(", "if (at == nearestInch(stands))",
                "if (at == nearestInch(stands) && at != line)");
        all.says("BACK: the odds that one who is WRITTEN at a HEIGHT stands at another one, by a HUMP.")
            .by(EdgesOfHeapsTest::backToWhereHeStands, EdgesOfHeapsTest::backOfNobody,
                EdgesOfHeapsTest::backBeyondTheEnds, EdgesOfHeapsTest::backByFavour)
            .brokenIn("long back(", "all += (long) humps.menAt(m, w, height) *", "all += (long)")
            .brokenIn("long back(", "now.hundredths(line, stands, at)", "now.hundredths(line, at, stands)")
            .brokenIn("long back(", "now.hundredths(line, height, at)", "now.hundredths(0, height, at)")
            .brokenIn("long back(", "height < HEIGHTS", "height < TALLEST");
        all.says("PILE of a BOOK: MEN at whole inches times 4, by all its MEN.")
            .by(EdgesOfHeapsTest::pileAtWholeInches, EdgesOfHeapsTest::pileOfNobody)
            .brokenIn("long pile(", "(long) INCH * ", "")
            .brokenIn("long pile(", "asked.total", "asked.atWholeInches()")
            .brokenIn("int atWholeInches(", "height < HEIGHTS", "height < TALLEST - INCH")
            .brokenIn("int atWholeInches(", "height = 0", "height = INCH");
    }

    private static void youngOnes(Sentences all) {
        all.says("GROWN of a BOOK: what one of its AGE grows till 23 by GROWTH: the sum for AGES from its own on,"
                + " below 23.")
            .by(EdgesOfHeapsTest::grownBelow23, EdgesOfHeapsTest::grownWithoutItems)
            .broken("GROWN_UP = 23", "GROWN_UP = 22")
            .broken("GROWN_UP = 23", "GROWN_UP = 24")
            .brokenIn("int growthFrom(", "a = age", "a = age + 1")
            .brokenIn("int growthFrom(", "sum +=", "sum =");
        all.says("LIED (tenths, 0 to 10; 0 at first): so many say a year more than they are: the mean of GROWN of its"
                + " AGE and of the AGE ahead, by these odds.")
            .by(EdgesOfBooksTest::newEntriesAndWays, EdgesOfBooksTest::tenthsAndQuarters,
                EdgesOfHeapsTest::liedTenths, EdgesOfHeapsTest::liedAtTheEnds)
            .broken("MOST_WAY = {9, 9, 4, 10, 10}", "MOST_WAY = {9, 9, 4, 10, 9}")
            .broken("trial = new Book();", "trial = new Book(); now.turn(LIED, 1);")
            .brokenIn("int tenthsGrown(", "growthFrom(age - 1)", "growthFrom(age + 1)")
            .brokenIn("int tenthsGrown(", "growthFrom(age - 1)", "growthFrom(Math.max(14, age - 1))")
            .brokenIn("int tenthsGrown(", "(TENTHS - lied) * growthFrom(age) +", "TENTHS * growthFrom(age) +");
        all.says("RIGHT of a BOOK by a WIDTH: FIT's MIDDLE and that mean.")
            .by(EdgesOfHeapsTest::rightIsBoth)
            .brokenIn("long right(", "+ now.tenthsGrown(asked)", "")
            .brokenIn("long right(", "+ now.tenthsGrown(asked)", "+ TENTHS * now.growthFrom(asked.entry(AGE))")
            .brokenIn("long right(", "seekMiddle(asked, w);", "seekMiddle(asked, 1);")
            .brokenIn("long right(", "seekMiddle(asked, w);", "undoing.seekLine(asked, w, now.wayOf(LEAK));");
    }

    private static void sorts(Sentences all) {
        all.in("Terms 4");
        all.says("Two SORTS of men: MIDDLES of both, one WIDTH.")
            .by(EdgesOfSortsTest::sortsOfOneWidth)
            .broken("sumTwo = humps.sumFrom(two, w, line)", "sumTwo = humps.sumFrom(one, w, line)")
            .broken("countTwo = humps.countFrom(two, w, line)", "countTwo = humps.countFrom(two, 1, line)")
            .broken("countOne = humps.countFrom(one, w, line)", "countOne = humps.countFrom(one, 1, line)");
        all.says("MIX by a share g (0 to 100): the mean of those of the line or more, men of SORT 0 counting g times,"
                + " those of SORT 1 100 less g times (those outside 0 to 63 are not made up for).")
            .by(EdgesOfSortsTest::mixFromTheLineOn, EdgesOfSortsTest::mixByShares,
                EdgesOfSortsTest::mixBeyondTheEnds)
            .broken("ALL_SHARES = 100", "ALL_SHARES = 99")
            .broken("ALL_SHARES = 100", "ALL_SHARES = 101")
            .broken("g * sumOne + (ALL_SHARES - g) * sumTwo", "g * sumTwo + (ALL_SHARES - g) * sumOne")
            .broken("g * countOne + (ALL_SHARES - g) * countTwo", "ALL_SHARES * (countOne + countTwo) / 2")
            .broken("sumOne = humps.sumFrom(one, w, line)", "sumOne = humps.sumFrom(one, w, line + 1)")
            .broken("countOne = humps.countFrom(one, w, line)",
                "countOne = line == 0 ? 1L << 2 * w : humps.countFrom(one, w, line)");
        all.says("FALL from a share to another one: MIX of the first less MIX of the second one.")
            .by(EdgesOfSortsTest::fallBothWays)
            .brokenIn("long tellFall(", "sorts.gap(g, h)", "sorts.gap(h, g)")
            .brokenIn("long tellFall(", "sorts.count(g) * sorts.count(h)", "sorts.count(g) * sorts.count(g) / 2")
            .brokenIn("long gap(", "sum(g) * count(h) - sum(h) * count(g)", "sum(g) * count(h)");
        all.says("ALONE: with the first share from g to h, the second one from i to j:"
                + " the least and the greatest FALL.")
            .by(EdgesOfSortsTest::aloneEnds, EdgesOfSortsTest::aloneOfOneShareEach, EdgesOfSortsTest::sharesAsTold)
            .brokenIn("long alone(", "sorts.lesser(g, h), sorts.greater(i, j)",
                "sorts.lesser(g, h), sorts.lesser(i, j)")
            .brokenIn("long alone(", "sorts.greater(g, h), sorts.lesser(i, j)",
                "sorts.greater(g, h), sorts.greater(i, j)")
            .brokenIn("long alone(", "sorts.lesser(g, h), sorts.greater(i, j)", "g, sorts.greater(i, j)")
            .brokenIn("long alone(", "int i = then", "int i = shares")
            .brokenIn("int lesser(", "gap(g, h) <= 0", "g <= h")
            .brokenIn("int greater(", "gap(g, h) >= 0", "g <= h");
    }

    private static void means(Sentences all) {
        all.says("MEAN, MODE (the HEIGHT with most MEN, the first such) of a BOOK.")
            .by(EdgesOfSortsTest::meanOfAll, EdgesOfSortsTest::modeIsTheFirst)
            .brokenIn("long mean(", "asked.sumMoved(0)", "asked.sumMoved(1)")
            .brokenIn("int commonest(", "men[height] > men[most]", "men[height] >= men[most]")
            .brokenIn("int commonest(", "men[height] > men[most]", "men[height] < men[most]")
            .brokenIn("int commonest(", "height < men.length", "height < men.length - 1");
        all.says("ABOUT: a BOOK of KIND 2 by so many QUARTERS (0 to 8): ends of its mean, if each may be so much less"
                + " or more (held to 0 .. 63).")
            .by(EdgesOfSortsTest::aboutHeldTo0, EdgesOfSortsTest::aboutHeldTo63,
                EdgesOfSortsTest::aboutByQuarters)
            .broken("MOST_ABOUT = 8", "MOST_ABOUT = 7")
            .broken("MOST_ABOUT = 8", "MOST_ABOUT = 9")
            .brokenIn("long sumMoved(", "Math.max(0, Math.min(TALLEST, height + quarters))",
                "Math.min(TALLEST, height + quarters)")
            .brokenIn("long sumMoved(", "Math.max(0, Math.min(TALLEST, height + quarters))",
                "Math.max(0, height + quarters)")
            .brokenIn("long about(", "end == 0 ? -quarters : quarters", "-quarters")
            .brokenIn("long about(", "end == 0 ? -quarters : quarters", "quarters");
        all.says("BESIDE: MEAN of a BOOK of KIND 1 less FIT's MIDDLE of another one by a WIDTH.")
            .by(EdgesOfSortsTest::besideBelow0, EdgesOfSortsTest::besideItself)
            .brokenIn("long beside(", "seekMiddle(second, w)", "seekMiddle(asked, w)")
            .brokenIn("long beside(", "asked.sumMoved(0) - undoing.middle * all",
                "undoing.middle * all - asked.sumMoved(0)")
            .brokenIn("long beside(", "undoing.middle * all", "undoing.middle");
        all.says("SHORTER, of two BOOKS by a WIDTH and a SLACK: 2: the second one's SPAN lies below the first one's;"
                + " 0: it does not begin below that one's beginning; 1: else.")
            .by(EdgesOfSortsTest::shorterAtTheEnds, EdgesOfSortsTest::shorterOfTheSame,
                EdgesOfSortsTest::shorterByItsLine)
            .brokenIn("int shorter(", "undoing.last < begins", "undoing.last <= begins")
            .brokenIn("int shorter(", "undoing.last < begins", "undoing.first < begins")
            .brokenIn("int shorter(", "undoing.first >= begins", "undoing.first > begins")
            .brokenIn("int shorter(", "? 0 : 1", "? 1 : 0")
            .brokenIn("int shorter(", "return 2;", "return 1;")
            .brokenIn("int shorter(", "int begins = undoing.first;", "int begins = undoing.last;")
            .brokenIn("int shorter(", "seekSpan(second, w, slack)", "seekSpan(second, w, 0)");
    }

    private static void worlds(Sentences all) {
        all.in("Terms 5");
        all.says("MADE in a BOOK from a seed (0 to 9999), of a HUMP, n times (1 to 200): its MEN go; DRAWS: the seed"
                + " becomes itself times 75 and 74, left over by 65537.")
            .by(EdgesOfWorldsTest::seedsAndDraws, EdgesOfWorldsTest::menGo, EdgesOfWorldsTest::oneTo200)
            .broken("MOST_SEED = 9999", "MOST_SEED = 9998")
            .broken("MOST_SEED = 9999", "MOST_SEED = 10000")
            .broken("MOST_MADE = 200", "MOST_MADE = 199")
            .broken("MOST_MADE = 200", "MOST_MADE = 201")
            .brokenIn("boolean isWorld(", "within(seed, 0,", "within(seed, -1,")
            .brokenIn("boolean isWorld(", "within(n, 1,", "within(n, 0,")
            .broken("seed * 75 + 74", "seed * 75 + 75")
            .broken("seed * 75 + 74", "seed * 74 + 74")
            .broken("% 65537", "% 65536")
            .brokenIn("int fill(", "book.clearMen();", "")
            .brokenIn("int fill(", "i < n", "i < n - 1");
        all.says("For each man: a DRAW left over by 4 to the power w is his number among the HUMP's men, the least"
                + " HEIGHTS first (who is outside is passed over); if he stands below the LINE of the BOOK: a DRAW"
                + " left over by 10 less than FAVOUR's tenths, and he is no farther below than FAVOUR: written at the"
                + " line; else a DRAW left over by 10 not less than LEAK: not taken; then (not favoured), if at no"
                + " whole inch: a DRAW left over by 10 less than HEAP: written at the nearest one.")
            .by(EdgesOfWorldsTest::numbersAmongTheHump, EdgesOfWorldsTest::numbersOfTheWidestHump,
                EdgesOfWorldsTest::whoIsOutside, EdgesOfWorldsTest::notBelowTheLine, EdgesOfWorldsTest::leakDraw,
                EdgesOfWorldsTest::favourDraw, EdgesOfWorldsTest::noFartherBelow,
                EdgesOfWorldsTest::favouredNoHeap, EdgesOfWorldsTest::heapDraw, EdgesOfWorldsTest::heapAtTheTop,
                EdgesOfWorldsTest::makeByKind)
            .brokenIn("int fill(", "int all = 1 << 2 * w;", "int all = 1 << w;")
            .brokenIn("int fill(", "int line = now.lineOf(book);", "int line = 0;")
            .brokenIn("int fill(", "isHeight(stands) ? placeOf(stands, line, now) : NONE",
                "placeOf(Math.max(0, Math.min(TALLEST, stands)), line, now)")
            .brokenIn("int heightOf(", "return m - w + k;", "return m + w - k;")
            .brokenIn("int heightOf(", "left < 0", "left <= 0")
            .brokenIn("int placeOf(", "stands < line", "stands <= line")
            .brokenIn("int placeOf(", "line - stands <= now", "line - stands < now")
            .brokenIn("int placeOf(", "draw(TENTHS) < now.wayOf(FAVOURED)", "draw(TENTHS) <= now.wayOf(FAVOURED)")
            .brokenIn("int placeOf(", "return line;", "return stands;")
            .brokenIn("int placeOf(", "draw(TENTHS) >= now.wayOf(LEAK)", "draw(TENTHS) > now.wayOf(LEAK)")
            .brokenIn("int placeOf(", "draw(TENTHS) < now.wayOf(HEAP)", "draw(TENTHS) <= now.wayOf(HEAP)")
            .brokenIn("int placeOf(", "return nearestInch(stands);", "return stands - stands % INCH;");
        all.says("(DRAWS are made just where they are told; one of FAVOUR only if he is no farther below.)")
            .by(EdgesOfWorldsTest::whoIsOutside, EdgesOfWorldsTest::noFartherBelow,
                EdgesOfWorldsTest::notTakenNoHeap, EdgesOfWorldsTest::favouredNoHeap, EdgesOfWorldsTest::heapDraw)
            .brokenIn("int fill(", "now) : NONE", "now) : draw(TENTHS) * 0 + NONE")
            .brokenIn("int placeOf(", "near && draw(TENTHS) < now.wayOf(FAVOURED)",
                "draw(TENTHS) < now.wayOf(FAVOURED) && near")
            .brokenIn("int placeOf(", "return NONE;", "draw(TENTHS); return NONE;")
            .brokenIn("int placeOf(", "return line;", "draw(TENTHS); return line;")
            .brokenIn("int placeOf(", "stands % INCH != 0 && draw(TENTHS) < now.wayOf(HEAP)",
                "draw(TENTHS) < now.wayOf(HEAP) && stands % INCH != 0");
    }

    private static void rulesOfUndoing(Sentences all) {
        all.says("RULES OF UNDOING: 0 MEAN cut, 1 MODE, 2 FIT, 3 FOUND's MIDDLE; OFF: the sum of how far they are from"
                + " m for worlds MADE from seeds s, s and 1, ... (as many as told, 1 to 8; the BOOK is as it was then;"
                + " a world without MEN counts 63).")
            .by(EdgesOfWorldsTest::offOfSomeWorlds, EdgesOfWorldsTest::offBeyondTheLastSeed,
                EdgesOfWorldsTest::offIsFar, EdgesOfWorldsTest::offByTheLineOfTheBook,
                EdgesOfWorldsTest::offLeavesTheBook)
            .broken("MOST_WORLDS = 8", "MOST_WORLDS = 7")
            .broken("MOST_WORLDS = 8", "MOST_WORLDS = 9")
            .brokenIn("int off(", "within(worlds, 1,", "within(worlds, 0,")
            .brokenIn("int offBy(", "seed + i", "seed")
            .brokenIn("int offBy(", "taken == 0 ? TALLEST", "taken == 0 ? 0")
            .brokenIn("int offBy(", "Math.abs(undone(trial, w, rule) - m)", "m - undone(trial, w, rule)")
            .brokenIn("int offBy(", "sum +=", "sum =")
            .brokenIn("int offBy(", "return sum;", "book.clearMen(); return sum;")
            .brokenIn("int offBy(", "trial.copyEntries(book);", "")
            .brokenIn("int undone(", "case 0:", "case 4:")
            .brokenIn("int undone(", "case 1:", "case 4:")
            .brokenIn("int undone(", "seekMiddle(book, w);", "undoing.seekLine(book, w, now.wayOf(LEAK));")
            .brokenIn("int undone(", "undoing.seekLine(book, w, now.wayOf(LEAK));", "seekMiddle(book, w);");
        all.says("BEST: the rule with the least OFF, the first such.")
            .by(EdgesOfWorldsTest::bestIsTheFirst)
            .brokenIn("int best(", "so < least", "so <= least")
            .brokenIn("int best(", "so < least", "so > least")
            .brokenIn("int best(", "least = so;", "")
            .brokenIn("int best(", "other < UNDOINGS", "other < UNDOINGS - 1");
    }

    private static void constants(Sentences all) {
        all.in("Constants");
        all.says("What refused calls answer; NONE: there is none.")
            .by(LanguageTest::constants)
            .broken("UNKNOWN = -1", "UNKNOWN = -7")
            .broken("OUTSIDE = -2", "OUTSIDE = -7")
            .broken("STATE = -3", "STATE = -7")
            .broken("FULL = -4", "FULL = -7")
            .broken("NO = -5", "NO = -7")
            .broken("NONE = -6", "NONE = -7");
        all.says("What is told of fractions that are refused: LOST and the refusal.")
            .by(LanguageTest::constants, () -> RefusalsTest.refusalsOf("about"), LaterRefusalsTest::otherKinds)
            .broken("LOST = -1000000000000000000L", "LOST = -100000000000000000L")
            .brokenIn("long about(", "LOST + UNKNOWN", "LOST - UNKNOWN")
            .brokenIn("long about(", "LOST + STATE", "STATE");
    }
}
