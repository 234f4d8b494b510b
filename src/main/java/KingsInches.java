import java.util.Arrays;

/**
 * How tall the king's men were. HEIGHTS are quarters of an inch, 0 to 63; words in capitals are
 * those of the document. Refused calls answer a number below 0 and change nothing.
 */
public final class KingsInches {
    public static final int UNKNOWN = -1, OUTSIDE = -2, STATE = -3, FULL = -4, NO = -5, NONE = -6;
    public static final long LOST = -1000000000000000000L;

    private static final int BOOKS = 6, IMAGES = 2, SIGNS = 60;
    private static final int HEIGHTS = 64, TALLEST = 63, INCH = 4, MOST_MEN = 999;
    private static final int WIDEST = 8, GROWN_UP = 23, TENTHS = 10;
    private static final int ALL_SHARES = 100, LEAST_SHARE = 1000;
    private static final int MOST_SLACK = 999, MOST_ABOUT = 8;
    private static final int MOST_SEED = 9999, MOST_MADE = 200, MOST_WORLDS = 8, UNDOINGS = 4;

    private static final int YEAR = 0, AGE = 1, KIND = 2;
    private static final int[] LEAST_ENTRY = {0, 14, 0};
    private static final int[] FIRST_ENTRY = {0, 25, 0};
    private static final int[] MOST_ENTRY = {99, 40, 2};
    private static final int BY_LINE = 0, BY_LOT = 1, ABOUT_SO = 2;

    private static final int LEAK = 0, HEAP = 1, FAVOUR = 2, FAVOURED = 3, LIED = 4;
    private static final int[] MOST_WAY = {9, 9, 4, 10, 10};

    private final Text pad;
    private final Holding now;
    private final Holding[] images;
    private final boolean[] kept;
    private final Humps humps;
    private final Undoing undoing;
    private final Maker maker;
    private final Book trial;

    public KingsInches() {
        pad = new Text();
        now = new Holding();
        images = new Holding[IMAGES];
        for (int i = 0; i < images.length; i++) {
            images[i] = new Holding();
        }
        kept = new boolean[IMAGES];
        humps = new Humps();
        undoing = new Undoing(humps);
        maker = new Maker(humps);
        trial = new Book();
    }

    // ---- 1 books, texts

    public int men(int book, int height, int n) {
        Book asked = now.bookAt(book);
        if (asked == null) {
            return UNKNOWN;
        }
        if (!isHeight(height) || !within(n, 0, MOST_MEN)) {
            return OUTSIDE;
        }
        int was = asked.menAt(height);
        asked.put(height, n);
        return was;
    }

    public int set(int book, int what, int v) {
        Book asked = now.bookAt(book);
        if (asked == null) {
            return UNKNOWN;
        }
        if (!within(what, YEAR, KIND) || !within(v, LEAST_ENTRY[what], MOST_ENTRY[what])) {
            return OUTSIDE;
        }
        int was = asked.entry(what);
        asked.enter(what, v);
        return was;
    }

    public int way(int which, int v) {
        if (!within(which, LEAK, LIED) || !within(v, 0, MOST_WAY[which])) {
            return OUTSIDE;
        }
        int was = now.wayOf(which);
        now.turn(which, v);
        return was;
    }

    public int say(int sign) {
        if (!within(sign, 33, 126)) {
            return OUTSIDE;
        }
        return pad.add(sign) ? pad.count : FULL;
    }

    public int wipe() {
        int was = pad.count;
        pad.clear();
        return was;
    }

    public int fault(int how) {
        return within(how, 0, 1) ? Grammar.faultOf(pad, how) : OUTSIDE;
    }

    public int take(int how) {
        if (!within(how, 0, 1)) {
            return OUTSIDE;
        }
        if (Grammar.faultOf(pad, how) != NONE) {
            return NO;
        }
        Text taken = how == 0 ? now.rule : now.growth;
        taken.copyFrom(pad);
        pad.clear();
        return taken.pieces();
    }

    public int line(int book) {
        Book asked = now.bookAt(book);
        return asked == null ? UNKNOWN : now.lineOf(asked);
    }

    // ---- 2 humps

    public int hump(int m, int w, int height) {
        return isHump(m, w) && isHeight(height) ? humps.menAt(m, w, height) : OUTSIDE;
    }

    public long upper(int m, int w, int line, int what, int part) {
        if (!isHump(m, w) || !isHeight(line) || !within(what, 0, 1) || !isPart(part)) {
            return LOST + OUTSIDE;
        }
        long above = humps.countFrom(m, w, line);
        if (what == 0) {
            return tell(above, humps.countFrom(m, w, 0), part);
        }
        return tell(humps.sumFrom(m, w, line), above, part);
    }

    public int misfit(int book, int m, int w, int line) {
        Book asked = now.bookAt(book);
        if (asked == null) {
            return UNKNOWN;
        }
        if (!isHump(m, w) || !isHeight(line)) {
            return OUTSIDE;
        }
        return undoing.misfitOf(asked, m, w, line, now.wayOf(LEAK));
    }

    public int fit(int book, int w, int what) {
        Book asked = now.bookAt(book);
        if (asked == null) {
            return UNKNOWN;
        }
        if (!isWidth(w) || !within(what, 0, 1)) {
            return OUTSIDE;
        }
        seekMiddle(asked, w);
        return what == 0 ? undoing.middle : undoing.misfit;
    }

    public int span(int book, int w, int slack, int end) {
        Book asked = now.bookAt(book);
        if (asked == null) {
            return UNKNOWN;
        }
        if (!isWidth(w) || !within(slack, 0, MOST_SLACK) || !within(end, 0, 1)) {
            return OUTSIDE;
        }
        seekSpan(asked, w, slack);
        return end == 0 ? undoing.first : undoing.last;
    }

    public int found(int book, int w, int what) {
        Book asked = now.bookAt(book);
        if (asked == null) {
            return UNKNOWN;
        }
        if (!isWidth(w) || !within(what, 0, 2)) {
            return OUTSIDE;
        }
        undoing.seekLine(asked, w, now.wayOf(LEAK));
        if (what == 0) {
            return undoing.line;
        }
        return what == 1 ? undoing.middle : undoing.misfit;
    }

    // ---- 3 heaps, young ones

    public long written(int line, int stands, int at, int part) {
        if (!isHeight(line) || !isHeight(stands) || !isHeight(at) || !isPart(part)) {
            return LOST + OUTSIDE;
        }
        return tell(now.hundredths(line, stands, at), TENTHS * TENTHS, part);
    }

    public long back(int m, int w, int line, int at, int stands, int part) {
        if (!isHump(m, w) || !isHeight(line) || !isHeight(at) || !isHeight(stands) || !isPart(part)) {
            return LOST + OUTSIDE;
        }
        long all = 0;
        for (int height = 0; height < HEIGHTS; height++) {
            all += (long) humps.menAt(m, w, height) * now.hundredths(line, height, at);
        }
        long these = (long) humps.menAt(m, w, stands) * now.hundredths(line, stands, at);
        return tell(these, all, part);
    }

    public long pile(int book, int part) {
        Book asked = now.bookAt(book);
        if (asked == null) {
            return LOST + UNKNOWN;
        }
        if (!isPart(part)) {
            return LOST + OUTSIDE;
        }
        return tell((long) INCH * asked.atWholeInches(), asked.total, part);
    }

    public long grown(int book, int what, int part) {
        Book asked = now.bookAt(book);
        if (asked == null) {
            return LOST + UNKNOWN;
        }
        if (!within(what, 0, 1) || !isPart(part)) {
            return LOST + OUTSIDE;
        }
        if (what == 0) {
            return tell(now.growthFrom(asked.entry(AGE)), 1, part);
        }
        return tell(now.tenthsGrown(asked), TENTHS, part);
    }

    public long right(int book, int w, int part) {
        Book asked = now.bookAt(book);
        if (asked == null) {
            return LOST + UNKNOWN;
        }
        if (!isWidth(w) || !isPart(part)) {
            return LOST + OUTSIDE;
        }
        seekMiddle(asked, w);
        return tell((long) TENTHS * undoing.middle + now.tenthsGrown(asked), TENTHS, part);
    }

    // ---- 4 sorts, means

    public long mix(int one, int two, int w, int line, int g, int part) {
        if (!areSorts(one, two, w, line) || !isShare(g) || !isPart(part)) {
            return LOST + OUTSIDE;
        }
        Sorts sorts = new Sorts(humps, one, two, w, line);
        if (sorts.lack(g)) {
            return LOST + NO;
        }
        return tell(sorts.sum(g), sorts.count(g), part);
    }

    public long fall(int one, int two, int w, int line, int g, int h, int part) {
        if (!areSorts(one, two, w, line) || !isShare(g) || !isShare(h) || !isPart(part)) {
            return LOST + OUTSIDE;
        }
        Sorts sorts = new Sorts(humps, one, two, w, line);
        if (sorts.lack(g) || sorts.lack(h)) {
            return LOST + NO;
        }
        return tellFall(sorts, g, h, part);
    }

    public long alone(int one, int two, int w, int line, int shares, int then, int end, int part) {
        if (!areSorts(one, two, w, line) || !areShares(shares) || !areShares(then)
                || !within(end, 0, 1) || !isPart(part)) {
            return LOST + OUTSIDE;
        }
        int g = shares / LEAST_SHARE;
        int h = shares % LEAST_SHARE;
        int i = then / LEAST_SHARE;
        int j = then % LEAST_SHARE;
        Sorts sorts = new Sorts(humps, one, two, w, line);
        // A MIX is missing inside a stretch of shares only if it is at one of its ends too.
        if (sorts.lack(g) || sorts.lack(h) || sorts.lack(i) || sorts.lack(j)) {
            return LOST + NO;
        }
        // From share to share MIX only rises or only sinks, so the ends are the extremes.
        if (end == 0) {
            return tellFall(sorts, sorts.lesser(g, h), sorts.greater(i, j), part);
        }
        return tellFall(sorts, sorts.greater(g, h), sorts.lesser(i, j), part);
    }

    public long mean(int book, int part) {
        Book asked = now.bookAt(book);
        if (asked == null) {
            return LOST + UNKNOWN;
        }
        if (!isPart(part)) {
            return LOST + OUTSIDE;
        }
        return tell(asked.sumMoved(0), asked.total, part);
    }

    public int mode(int book) {
        Book asked = now.bookAt(book);
        if (asked == null) {
            return UNKNOWN;
        }
        return asked.total == 0 ? NONE : asked.commonest();
    }

    public long about(int book, int quarters, int end, int part) {
        Book asked = now.bookAt(book);
        if (asked == null) {
            return LOST + UNKNOWN;
        }
        if (!within(quarters, 0, MOST_ABOUT) || !within(end, 0, 1) || !isPart(part)) {
            return LOST + OUTSIDE;
        }
        if (asked.entry(KIND) != ABOUT_SO) {
            return LOST + STATE;
        }
        return tell(asked.sumMoved(end == 0 ? -quarters : quarters), asked.total, part);
    }

    public long beside(int book, int other, int w, int part) {
        Book asked = now.bookAt(book);
        Book second = now.bookAt(other);
        if (asked == null || second == null) {
            return LOST + UNKNOWN;
        }
        if (!isWidth(w) || !isPart(part)) {
            return LOST + OUTSIDE;
        }
        if (asked.entry(KIND) != BY_LOT || asked.total == 0) {
            return LOST + STATE;
        }
        seekMiddle(second, w);
        long all = asked.total;
        return tell(asked.sumMoved(0) - undoing.middle * all, all, part);
    }

    public int shorter(int book, int other, int w, int slack) {
        Book asked = now.bookAt(book);
        Book second = now.bookAt(other);
        if (asked == null || second == null) {
            return UNKNOWN;
        }
        if (!isWidth(w) || !within(slack, 0, MOST_SLACK)) {
            return OUTSIDE;
        }
        seekSpan(asked, w, slack);
        int begins = undoing.first;
        seekSpan(second, w, slack);
        if (undoing.last < begins) {
            return 2;
        }
        return undoing.first >= begins ? 0 : 1;
    }

    // ---- 5 worlds

    public int make(int book, int seed, int m, int w, int n) {
        Book asked = now.bookAt(book);
        if (asked == null) {
            return UNKNOWN;
        }
        return isWorld(seed, m, w, n) ? maker.fill(asked, now, seed, m, w, n) : OUTSIDE;
    }

    public int off(int book, int seed, int m, int w, int n, int worlds, int rule) {
        Book asked = now.bookAt(book);
        if (asked == null) {
            return UNKNOWN;
        }
        if (!isWorld(seed, m, w, n) || !within(worlds, 1, MOST_WORLDS) || !within(rule, 0, UNDOINGS - 1)) {
            return OUTSIDE;
        }
        return offBy(asked, seed, m, w, n, worlds, rule);
    }

    public int best(int book, int seed, int m, int w, int n, int worlds) {
        Book asked = now.bookAt(book);
        if (asked == null) {
            return UNKNOWN;
        }
        if (!isWorld(seed, m, w, n) || !within(worlds, 1, MOST_WORLDS)) {
            return OUTSIDE;
        }
        int rule = 0;
        int least = offBy(asked, seed, m, w, n, worlds, 0);
        for (int other = 1; other < UNDOINGS; other++) {
            int so = offBy(asked, seed, m, w, n, worlds, other);
            if (so < least) {
                least = so;
                rule = other;
            }
        }
        return rule;
    }

    public int image(int n) {
        if (!isImage(n)) {
            return OUTSIDE;
        }
        images[n].copyFrom(now);
        kept[n] = true;
        return 1;
    }

    public int restore(int n) {
        if (!isImage(n)) {
            return OUTSIDE;
        }
        if (!kept[n]) {
            return STATE;
        }
        now.copyFrom(images[n]);
        return 1;
    }

    public int told(int what) {
        if (what == 0) {
            return pad.count;
        }
        if (what == 1) {
            return now.rule.pieces();
        }
        if (what == 2) {
            return now.growth.pieces();
        }
        if (within(what, 3, 7)) {
            return now.wayOf(what - 3);
        }
        Book asked = within(what, 10, 45) ? now.bookAt(what % 10) : null;
        if (asked == null) {
            return OUTSIDE;
        }
        return what < 20 ? asked.total : asked.entry(what / 10 - 2);
    }

    // ---- what the calls share

    private void seekMiddle(Book book, int w) {
        undoing.seekMiddle(book, w, now.lineOf(book), now.wayOf(LEAK));
    }

    private void seekSpan(Book book, int w, int slack) {
        undoing.seekSpan(book, w, now.lineOf(book), now.wayOf(LEAK), slack);
    }

    /** OFF; worlds are made in a BOOK beside, so that the one that is asked for stays as it is. */
    private int offBy(Book book, int seed, int m, int w, int n, int worlds, int rule) {
        trial.copyEntries(book);
        int sum = 0;
        for (int i = 0; i < worlds; i++) {
            int taken = maker.fill(trial, now, seed + i, m, w, n);
            sum += taken == 0 ? TALLEST : Math.abs(undone(trial, w, rule) - m);
        }
        return sum;
    }

    /** The MIDDLE that a RULE OF UNDOING tells of a BOOK. */
    private int undone(Book book, int w, int rule) {
        switch (rule) {
            case 0:
                return book.total == 0 ? 0 : (int) (book.sumMoved(0) / book.total);
            case 1:
                return book.commonest();
            case 2:
                seekMiddle(book, w);
                return undoing.middle;
            default:
                undoing.seekLine(book, w, now.wayOf(LEAK));
                return undoing.middle;
        }
    }

    private static boolean within(int v, int least, int most) {
        return v >= least && v <= most;
    }

    private static boolean isHeight(int v) {
        return within(v, 0, TALLEST);
    }

    private static boolean isWidth(int w) {
        return within(w, 1, WIDEST);
    }

    private static boolean isHump(int m, int w) {
        return isHeight(m) && isWidth(w);
    }

    private static boolean isPart(int part) {
        return within(part, 0, 1);
    }

    private static boolean isShare(int g) {
        return within(g, 0, ALL_SHARES);
    }

    /** 1000 times the least share, and the greatest. */
    private static boolean areShares(int v) {
        int least = v / LEAST_SHARE;
        int greatest = v % LEAST_SHARE;
        return v >= 0 && least <= greatest && greatest <= ALL_SHARES;
    }

    private static boolean areSorts(int one, int two, int w, int line) {
        return isHump(one, w) && isHeight(two) && isHeight(line);
    }

    private static boolean isWorld(int seed, int m, int w, int n) {
        return within(seed, 0, MOST_SEED) && isHump(m, w) && within(n, 1, MOST_MADE);
    }

    private static boolean isImage(int n) {
        return within(n, 0, IMAGES - 1);
    }

    /** Of two whole inches as near the lower one; there is none above 63. */
    private static int nearestInch(int height) {
        int left = height % INCH;
        return left <= INCH / 2 ? height - left : Math.min(TALLEST, height - left + INCH);
    }

    private static long tellFall(Sorts sorts, int g, int h, int part) {
        return tell(sorts.gap(g, h), sorts.count(g) * sorts.count(h), part);
    }

    /** A part of a fraction in lowest terms; the lower number is never below 0 here. */
    private static long tell(long upper, long lower, int part) {
        if (upper == 0 || lower <= 0) {
            return part == 0 ? 0 : 1;
        }
        return (part == 0 ? upper : lower) / commonDivisor(Math.abs(upper), lower);
    }

    /** Never below 1. Two longs need less than 100 steps. */
    private static long commonDivisor(long a, long b) {
        long greater = a;
        long lesser = b;
        for (int step = 0; step < 200 && lesser != 0; step++) {
            long left = greater % lesser;
            greater = lesser;
            lesser = left;
        }
        return Math.max(1, greater);
    }

    /** Up to 60 signs: the PAD, THE RULE or GROWTH. */
    private static final class Text {
        final int[] signs = new int[SIGNS];
        int count;

        boolean add(int sign) {
            if (count < 0 || count >= signs.length) {
                return false;
            }
            signs[count] = sign;
            count++;
            return true;
        }

        void clear() {
            count = 0;
        }

        int signAt(int place) {
            return place < 0 || place >= signs.length ? 0 : signs[place];
        }

        void copyFrom(Text other) {
            System.arraycopy(other.signs, 0, signs, 0, signs.length);
            count = other.count;
        }

        /** CASES or ITEMS of a text without a FAULT. */
        int pieces() {
            int n = count == 0 ? 0 : 1;
            for (int i = 0; i < count; i++) {
                n += signAt(i) == ';' ? 1 : 0;
            }
            return n;
        }
    }

    /** What may stand where in both texts: states of one kind, each text with its own first one. */
    private static final class Grammar {
        private static final int STUCK = -1;
        private static final int CASE = 0, TEST = 1, NAMED = 2, COMPARED = 3, BOUND_1 = 4, BOUND_2 = 5;
        private static final int STAR = 6, SAYS = 7, SAID_1 = 8, SAID_2 = 9;
        private static final int ITEM = 10, AGE_1 = 11, AGE_2 = 12, GROWS = 13, GROWN = 14;

        static int faultOf(Text text, int how) {
            int state = how == 0 ? CASE : ITEM;
            for (int i = 0; i < text.count; i++) {
                state = after(state, text.signAt(i));
                if (state == STUCK) {
                    return i;
                }
            }
            return state == SAID_1 || state == SAID_2 || state == GROWN ? NONE : text.count;
        }

        private static int after(int state, int sign) {
            switch (state) {
                case CASE:
                    return sign == '*' ? STAR : beginTest(sign);
                case TEST:
                    return beginTest(sign);
                case NAMED:
                    return sign == '<' || sign == '>' || sign == '=' ? COMPARED : STUCK;
                case COMPARED:
                    return isDigit(sign) ? BOUND_1 : STUCK;
                case BOUND_1:
                    return isDigit(sign) ? BOUND_2 : endTest(sign);
                case BOUND_2:
                    return endTest(sign);
                case STAR:
                    return sign == ':' ? SAYS : STUCK;
                case SAYS:
                    return isDigit(sign) ? SAID_1 : STUCK;
                case SAID_1:
                    return isDigit(sign) ? SAID_2 : endPiece(sign, CASE);
                case SAID_2:
                    return endPiece(sign, CASE);
                default:
                    return afterInGrowth(state, sign);
            }
        }

        private static int afterInGrowth(int state, int sign) {
            switch (state) {
                case ITEM:
                    return isDigit(sign) ? AGE_1 : STUCK;
                case AGE_1:
                    return isDigit(sign) ? AGE_2 : endAge(sign);
                case AGE_2:
                    return endAge(sign);
                case GROWS:
                    return isDigit(sign) ? GROWN : STUCK;
                case GROWN:
                    return endPiece(sign, ITEM);
                default:
                    return STUCK;
            }
        }

        private static int beginTest(int sign) {
            return sign == 'y' || sign == 'a' ? NAMED : STUCK;
        }

        private static int endTest(int sign) {
            if (sign == '&') {
                return TEST;
            }
            return sign == ':' ? SAYS : STUCK;
        }

        private static int endAge(int sign) {
            return sign == ':' ? GROWS : STUCK;
        }

        private static int endPiece(int sign, int next) {
            return sign == ';' ? next : STUCK;
        }

        static boolean isDigit(int sign) {
            return sign >= '0' && sign <= '9';
        }
    }

    /** What texts without a FAULT say. */
    private static final class Reading {

        /** What the first CASE that fits says; 0, if none does. */
        static int lineBy(Text rule, int year, int age) {
            boolean fits = true;
            int named = 0;
            int compare = '*';
            int number = 0;
            for (int i = 0; i < rule.count; i++) {
                int sign = rule.signAt(i);
                if (Grammar.isDigit(sign)) {
                    number = 10 * number + sign - '0';
                } else if (sign == 'y' || sign == 'a') {
                    named = sign == 'y' ? year : age;
                } else if (sign == '&' || sign == ':') {
                    fits = fits && holds(named, compare, number);
                    number = 0;
                } else if (sign != ';') {
                    compare = sign;
                } else if (fits) {
                    return number;
                } else {
                    fits = true;
                    number = 0;
                }
            }
            return fits ? number : 0;
        }

        /** A * stands for a TEST that always holds. */
        private static boolean holds(int named, int compare, int number) {
            switch (compare) {
                case '<':
                    return named < number;
                case '>':
                    return named > number;
                case '=':
                    return named == number;
                default:
                    return true;
            }
        }

        /** QUARTERS that one grows from an AGE to the next, by its first ITEM. */
        static int growthAt(Text growth, int age) {
            int named = 0;
            int number = 0;
            for (int i = 0; i < growth.count; i++) {
                int sign = growth.signAt(i);
                if (Grammar.isDigit(sign)) {
                    number = 10 * number + sign - '0';
                } else if (sign == ':') {
                    named = number;
                    number = 0;
                } else if (named == age) {
                    return number;
                } else {
                    number = 0;
                }
            }
            return named == age ? number : 0;
        }
    }

    /** A BOOK; it counts all its MEN as they come and go, for MISFIT asks for them often. */
    private static final class Book {
        final int[] men = new int[HEIGHTS];
        final int[] entries = FIRST_ENTRY.clone();
        int total;

        int menAt(int height) {
            return height < 0 || height >= men.length ? 0 : men[height];
        }

        void put(int height, int n) {
            if (isHeight(height)) {
                total += n - men[height];
                men[height] = n;
            }
        }

        int entry(int what) {
            return within(what, YEAR, KIND) ? entries[what] : 0;
        }

        void enter(int what, int v) {
            if (within(what, YEAR, KIND)) {
                entries[what] = v;
            }
        }

        void clearMen() {
            Arrays.fill(men, 0);
            total = 0;
        }

        void copyEntries(Book other) {
            System.arraycopy(other.entries, 0, entries, 0, entries.length);
        }

        void copyFrom(Book other) {
            copyEntries(other);
            System.arraycopy(other.men, 0, men, 0, men.length);
            total = other.total;
        }

        int atWholeInches() {
            int n = 0;
            for (int height = 0; height < HEIGHTS; height += INCH) {
                n += men[height];
            }
            return n;
        }

        /** All HEIGHTS together, each moved by so many QUARTERS and held to 0 .. 63. */
        long sumMoved(int quarters) {
            long sum = 0;
            for (int height = 0; height < men.length; height++) {
                sum += (long) men[height] * Math.max(0, Math.min(TALLEST, height + quarters));
            }
            return sum;
        }

        int commonest() {
            int most = 0;
            for (int height = 1; height < men.length; height++) {
                if (men[height] > men[most]) {
                    most = height;
                }
            }
            return most;
        }
    }

    /** All but signs: what an IMAGE keeps. */
    private static final class Holding {
        final Book[] books = new Book[BOOKS];
        final Text rule = new Text();
        final Text growth = new Text();
        final int[] ways = new int[MOST_WAY.length];

        Holding() {
            for (int i = 0; i < books.length; i++) {
                books[i] = new Book();
            }
        }

        void copyFrom(Holding other) {
            for (int i = 0; i < books.length; i++) {
                books[i].copyFrom(other.books[i]);
            }
            rule.copyFrom(other.rule);
            growth.copyFrom(other.growth);
            System.arraycopy(other.ways, 0, ways, 0, ways.length);
        }

        /** null: there is no such BOOK. */
        Book bookAt(int book) {
            return within(book, 0, books.length - 1) ? books[book] : null;
        }

        int wayOf(int which) {
            return within(which, 0, ways.length - 1) ? ways[which] : 0;
        }

        void turn(int which, int v) {
            if (within(which, 0, ways.length - 1)) {
                ways[which] = v;
            }
        }

        int lineOf(Book book) {
            if (book.entry(KIND) != BY_LINE) {
                return 0;
            }
            return Math.min(TALLEST, Reading.lineBy(rule, book.entry(YEAR), book.entry(AGE)));
        }

        int growthFrom(int age) {
            int sum = 0;
            for (int a = age; a < GROWN_UP; a++) {
                sum += Reading.growthAt(growth, a);
            }
            return sum;
        }

        /** Who says a year more than he is grows as those of the AGE ahead. */
        int tenthsGrown(Book book) {
            int age = book.entry(AGE);
            int lied = wayOf(LIED);
            return (TENTHS - lied) * growthFrom(age) + lied * growthFrom(age - 1);
        }

        /** WRITTEN, of 100 who stand there. */
        int hundredths(int line, int stands, int at) {
            boolean near = stands < line && line - stands <= wayOf(FAVOUR);
            int favoured = near ? wayOf(FAVOURED) : 0;
            int heaped = stands % INCH == 0 ? 0 : wayOf(HEAP);
            int odds = 0;
            if (at == line) {
                odds += TENTHS * favoured;
            }
            if (at == nearestInch(stands)) {
                odds += (TENTHS - favoured) * heaped;
            }
            if (at == stands) {
                odds += (TENTHS - favoured) * (TENTHS - heaped);
            }
            return odds;
        }
    }

    /** HUMPS: a row for each WIDTH w, of the ways to choose so many of 2w. */
    private static final class Humps {
        private final int[][] rows = new int[WIDEST + 1][2 * WIDEST + 1];

        Humps() {
            for (int w = 1; w <= WIDEST; w++) {
                int ways = 1;
                for (int k = 0; k <= 2 * w; k++) {
                    rows[w][k] = ways;
                    ways = ways * (2 * w - k) / (k + 1);
                }
            }
        }

        private int waysOf(int w, int k) {
            return w < 1 || w > WIDEST || k < 0 || k > 2 * w ? 0 : rows[w][k];
        }

        int menAt(int m, int w, int height) {
            return height < 0 || height > TALLEST ? 0 : waysOf(w, height - m + w);
        }

        long countFrom(int m, int w, int line) {
            long count = 0;
            for (int height = Math.max(line, m - w); height <= m + w; height++) {
                count += menAt(m, w, height);
            }
            return count;
        }

        long sumFrom(int m, int w, int line) {
            long sum = 0;
            for (int height = Math.max(line, m - w); height <= m + w; height++) {
                sum += (long) height * menAt(m, w, height);
            }
            return sum;
        }

        /** Where the man of this number (from 0 on) stands, perhaps outside 0 to 63. */
        int heightOf(int m, int w, int number) {
            int left = number;
            for (int k = 0; k < 2 * w; k++) {
                left -= waysOf(w, k);
                if (left < 0) {
                    return m - w + k;
                }
            }
            return m + w;
        }
    }

    /** Searches over told grids; what the last one came upon stands in its fields. */
    private static final class Undoing {
        private final Humps humps;
        private final long[] parts = new long[HEIGHTS];
        int line, middle, misfit;
        int first, last;

        Undoing(Humps humps) {
            this.humps = humps;
        }

        /** MISFIT; NO, if all parts are 0. */
        int misfitOf(Book book, int m, int w, int line, int leak) {
            int from = Math.max(0, m - w);
            int to = Math.min(parts.length - 1, m + w);
            long all = 0;
            for (int height = from; height <= to; height++) {
                parts[height] = (long) humps.menAt(m, w, height) * (height >= line ? TENTHS : leak);
                all += parts[height];
            }
            if (all <= 0) {
                return NO;
            }
            // Nobody is EXPECTED beside the HUMP, so MEN there are as far from it as they are many.
            long sum = book.total;
            for (int height = from; height <= to; height++) {
                int men = book.menAt(height);
                sum += Math.abs(men - book.total * parts[height] / all) - men;
            }
            return (int) sum;
        }

        void seekMiddle(Book book, int w, int line, int leak) {
            misfit = NONE;
            for (int m = 0; m < HEIGHTS; m++) {
                offer(line, m, misfitOf(book, m, w, line, leak));
            }
        }

        void seekSpan(Book book, int w, int line, int leak, int slack) {
            seekMiddle(book, w, line, leak);
            first = middle;
            last = middle;
            for (int m = 0; m < HEIGHTS; m++) {
                int so = misfitOf(book, m, w, line, leak);
                if (so != NO && so <= misfit + slack) {
                    first = Math.min(first, m);
                    last = Math.max(last, m);
                }
            }
        }

        /**
         * With all of a HUMP on one side of it a line changes nobody who is EXPECTED (or leaves
         * nobody), so such a one is never better than line 0, which comes first.
         */
        void seekLine(Book book, int w, int leak) {
            seekMiddle(book, w, 0, leak);
            for (int at = 1; at < HEIGHTS; at++) {
                int to = Math.min(TALLEST, at + w - 1);
                for (int m = Math.max(0, at - w); m <= to; m++) {
                    offer(at, m, misfitOf(book, m, w, at, leak));
                }
            }
        }

        private void offer(int at, int m, int so) {
            if (so != NO && (misfit == NONE || so < misfit)) {
                line = at;
                middle = m;
                misfit = so;
            }
        }
    }

    /** Two SORTS of men, of a line or more: their HEIGHTS together, and how many they are. */
    private static final class Sorts {
        private final long sumOne, countOne, sumTwo, countTwo;

        Sorts(Humps humps, int one, int two, int w, int line) {
            sumOne = humps.sumFrom(one, w, line);
            countOne = humps.countFrom(one, w, line);
            sumTwo = humps.sumFrom(two, w, line);
            countTwo = humps.countFrom(two, w, line);
        }

        long sum(int g) {
            return g * sumOne + (ALL_SHARES - g) * sumTwo;
        }

        long count(int g) {
            return g * countOne + (ALL_SHARES - g) * countTwo;
        }

        boolean lack(int g) {
            return count(g) == 0;
        }

        /** The upper number of MIX of g less MIX of h, both counts being the lower one. */
        long gap(int g, int h) {
            return sum(g) * count(h) - sum(h) * count(g);
        }

        /** The share whose MIX is less. */
        int lesser(int g, int h) {
            return gap(g, h) <= 0 ? g : h;
        }

        int greater(int g, int h) {
            return gap(g, h) >= 0 ? g : h;
        }
    }

    /** Worlds from a seed. */
    private static final class Maker {
        private final Humps humps;
        private int seed;

        Maker(Humps humps) {
            this.humps = humps;
        }

        private int draw(int by) {
            seed = (seed * 75 + 74) % 65537;
            return by <= 0 ? 0 : seed % by;
        }

        /** MADE: how many were taken. */
        int fill(Book book, Holding now, int seed, int m, int w, int n) {
            this.seed = seed;
            book.clearMen();
            int line = now.lineOf(book);
            int all = 1 << 2 * w;
            for (int i = 0; i < n; i++) {
                int stands = humps.heightOf(m, w, draw(all));
                int at = isHeight(stands) ? placeOf(stands, line, now) : NONE;
                if (at != NONE) {
                    book.put(at, book.menAt(at) + 1);
                }
            }
            return book.total;
        }

        /** Where he is written; NONE: he is not taken. Each draw(TENTHS) is one that the document tells. */
        private int placeOf(int stands, int line, Holding now) {
            if (stands < line) {
                boolean near = line - stands <= now.wayOf(FAVOUR);
                if (near && draw(TENTHS) < now.wayOf(FAVOURED)) {
                    return line;
                }
                if (draw(TENTHS) >= now.wayOf(LEAK)) {
                    return NONE;
                }
            }
            if (stands % INCH != 0 && draw(TENTHS) < now.wayOf(HEAP)) {
                return nearestInch(stands);
            }
            return stands;
        }
    }
}
