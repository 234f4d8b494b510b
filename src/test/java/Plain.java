import java.math.BigInteger;
import java.util.ArrayList;
import java.util.List;
import java.util.regex.Matcher;
import java.util.regex.Pattern;

/**
 * The document once more, as plainly as it can be said and with other means than the class has:
 * regular expressions, big numbers, every grid gone through in full. AgreementTest asks both.
 */
final class Plain {
    private static final Pattern RULE = textOf("(\\*|[ya][<>=]\\d{1,2}(&[ya][<>=]\\d{1,2})*):\\d{1,2}");
    private static final Pattern GROWTH = textOf("\\d{1,2}:\\d");
    private static final long LOST = -1000000000000000000L;
    private static final int[] MOST_WAY = {9, 9, 4, 10, 10};
    private static final int[][] ENTRY = {{0, 99}, {14, 40}, {0, 2}};

    private static final class All {
        final int[][] men = new int[6][64];
        final int[][] entry = {{0, 25, 0}, {0, 25, 0}, {0, 25, 0}, {0, 25, 0}, {0, 25, 0}, {0, 25, 0}};
        int[] way = new int[5];
        String rule = "";
        String growth = "";

        All copy() {
            All other = new All();
            for (int b = 0; b < 6; b++) {
                other.men[b] = men[b].clone();
                other.entry[b] = entry[b].clone();
            }
            other.way = way.clone();
            other.rule = rule;
            other.growth = growth;
            return other;
        }
    }

    /** A fraction in lowest terms, the lower number above 0. */
    private static final class Part {
        final BigInteger upper;
        final BigInteger lower;

        Part(BigInteger upper, BigInteger lower) {
            if (lower.signum() == 0) {
                this.upper = BigInteger.ZERO;
                this.lower = BigInteger.ONE;
            } else {
                BigInteger common = upper.gcd(lower);
                this.upper = upper.divide(common);
                this.lower = lower.divide(common);
            }
        }

        Part(long upper, long lower) {
            this(BigInteger.valueOf(upper), BigInteger.valueOf(lower));
        }

        Part less(Part other) {
            return new Part(upper.multiply(other.lower).subtract(other.upper.multiply(lower)),
                    lower.multiply(other.lower));
        }

        Part and(Part other) {
            return less(new Part(other.upper.negate(), other.lower));
        }

        Part times(Part other) {
            return new Part(upper.multiply(other.upper), lower.multiply(other.lower));
        }

        long tell(int part) {
            return part == 0 ? upper.longValueExact() : lower.longValueExact();
        }
    }

    private All all = new All();
    private final All[] images = new All[2];
    private String pad = "";

    private static Pattern textOf(String piece) {
        return Pattern.compile(piece + "(;" + piece + ")*");
    }

    private static boolean in(int v, int least, int most) {
        return least <= v && v <= most;
    }

    private static boolean book(int b) {
        return in(b, 0, 5);
    }

    private static boolean height(int... hs) {
        boolean good = true;
        for (int h : hs) {
            good &= in(h, 0, 63);
        }
        return good;
    }

    private static boolean bit(int... vs) {
        boolean good = true;
        for (int v : vs) {
            good &= v == 0 || v == 1;
        }
        return good;
    }

    private static boolean width(int w) {
        return in(w, 1, 8);
    }

    int men(int b, int h, int n) {
        if (!book(b)) {
            return -1;
        }
        if (!height(h) || !in(n, 0, 999)) {
            return -2;
        }
        int was = all.men[b][h];
        all.men[b][h] = n;
        return was;
    }

    int set(int b, int what, int v) {
        if (!book(b)) {
            return -1;
        }
        if (!in(what, 0, 2) || !in(v, ENTRY[what][0], ENTRY[what][1])) {
            return -2;
        }
        int was = all.entry[b][what];
        all.entry[b][what] = v;
        return was;
    }

    int way(int which, int v) {
        if (!in(which, 0, 4) || !in(v, 0, MOST_WAY[which])) {
            return -2;
        }
        int was = all.way[which];
        all.way[which] = v;
        return was;
    }

    int say(int sign) {
        if (!in(sign, 33, 126)) {
            return -2;
        }
        if (pad.length() == 60) {
            return -4;
        }
        pad += (char) sign;
        return pad.length();
    }

    int wipe() {
        int was = pad.length();
        pad = "";
        return was;
    }

    int fault(int how) {
        if (!bit(how)) {
            return -2;
        }
        Pattern due = how == 0 ? RULE : GROWTH;
        if (due.matcher(pad).matches()) {
            return -6;
        }
        // The longest beginning that signs behind it can make right.
        for (int length = pad.length(); length > 0; length--) {
            Matcher beginning = due.matcher(pad.substring(0, length));
            if (beginning.matches() || beginning.hitEnd()) {
                return length;
            }
        }
        return 0;
    }

    int take(int how) {
        if (!bit(how)) {
            return -2;
        }
        if (fault(how) != -6) {
            return -5;
        }
        if (how == 0) {
            all.rule = pad;
        } else {
            all.growth = pad;
        }
        int pieces = pad.split(";").length;
        pad = "";
        return pieces;
    }

    int line(int b) {
        if (!book(b)) {
            return -1;
        }
        if (all.entry[b][2] != 0 || all.rule.isEmpty()) {
            return 0;
        }
        for (String piece : all.rule.split(";")) {
            String[] sides = piece.split(":");
            boolean fits = true;
            for (String test : sides[0].split("&")) {
                fits &= test.equals("*") || holds(test, b);
            }
            if (fits) {
                return Math.min(63, Integer.parseInt(sides[1]));
            }
        }
        return 0;
    }

    private boolean holds(String test, int b) {
        int v = all.entry[b][test.charAt(0) == 'y' ? 0 : 1];
        int bound = Integer.parseInt(test.substring(2));
        char sign = test.charAt(1);
        return sign == '<' ? v < bound : sign == '>' ? v > bound : v == bound;
    }

    private static long choose(int n, int k) {
        if (k < 0 || k > n) {
            return 0;
        }
        return k == 0 ? 1 : choose(n - 1, k - 1) * n / k;
    }

    private static long[] humpOf(int m, int w) {
        long[] men = new long[64];
        for (int h = 0; h < 64; h++) {
            men[h] = choose(2 * w, h - m + w);
        }
        return men;
    }

    int hump(int m, int w, int h) {
        return height(m, h) && width(w) ? (int) humpOf(m, w)[h] : -2;
    }

    long upper(int m, int w, int line, int what, int part) {
        if (!height(m, line) || !width(w) || !bit(what, part)) {
            return LOST - 2;
        }
        long whole = 0;
        long above = 0;
        long sum = 0;
        for (int h = 0; h < 64; h++) {
            long men = humpOf(m, w)[h];
            whole += men;
            above += h >= line ? men : 0;
            sum += h >= line ? h * men : 0;
        }
        return (what == 0 ? new Part(above, whole) : new Part(sum, above)).tell(part);
    }

    private int menOf(int[] men) {
        int sum = 0;
        for (int n : men) {
            sum += n;
        }
        return sum;
    }

    private int misfitOf(int[] men, int m, int w, int line) {
        long[] parts = humpOf(m, w);
        long sum = 0;
        for (int h = 0; h < 64; h++) {
            parts[h] *= h >= line ? 10 : all.way[0];
            sum += parts[h];
        }
        if (sum == 0) {
            return -5;
        }
        int far = 0;
        int total = menOf(men);
        for (int h = 0; h < 64; h++) {
            far += Math.abs(men[h] - (int) (total * parts[h] / sum));
        }
        return far;
    }

    int misfit(int b, int m, int w, int line) {
        if (!book(b)) {
            return -1;
        }
        return height(m, line) && width(w) ? misfitOf(all.men[b], m, w, line) : -2;
    }

    /** MIDDLE and MISFIT. */
    private int[] fitOf(int[] men, int w, int line) {
        int[] least = {-1, Integer.MAX_VALUE};
        for (int m = 0; m < 64; m++) {
            int so = misfitOf(men, m, w, line);
            if (so != -5 && so < least[1]) {
                least = new int[] {m, so};
            }
        }
        return least;
    }

    int fit(int b, int w, int what) {
        if (!book(b)) {
            return -1;
        }
        return width(w) && bit(what) ? fitOf(all.men[b], w, line(b))[what] : -2;
    }

    private List<Integer> spanOf(int b, int w, int slack) {
        List<Integer> middles = new ArrayList<>();
        int most = fit(b, w, 1) + slack;
        for (int m = 0; m < 64; m++) {
            int so = misfitOf(all.men[b], m, w, line(b));
            if (so != -5 && so <= most) {
                middles.add(m);
            }
        }
        return middles;
    }

    int span(int b, int w, int slack, int end) {
        if (!book(b)) {
            return -1;
        }
        if (!width(w) || !in(slack, 0, 999) || !bit(end)) {
            return -2;
        }
        List<Integer> middles = spanOf(b, w, slack);
        return middles.get(end == 0 ? 0 : middles.size() - 1);
    }

    /** Line, MIDDLE and MISFIT. */
    private int[] foundOf(int[] men, int w) {
        int[] least = {-1, -1, Integer.MAX_VALUE};
        for (int line = 0; line < 64; line++) {
            int[] so = fitOf(men, w, line);
            if (so[1] < least[2]) {
                least = new int[] {line, so[0], so[1]};
            }
        }
        return least;
    }

    int found(int b, int w, int what) {
        if (!book(b)) {
            return -1;
        }
        return width(w) && in(what, 0, 2) ? foundOf(all.men[b], w)[what] : -2;
    }

    private static int nearest(int h) {
        int best = 0;
        for (int inch = 4; inch <= 64; inch += 4) {
            best = Math.abs(inch - h) < Math.abs(best - h) ? inch : best;
        }
        return Math.min(63, best);
    }

    private Part oddsOf(int line, int stands, int at) {
        Part odds = new Part(0, 1);
        Part left = new Part(1, 1);
        if (line > 0 && stands < line && line - stands <= all.way[2]) {
            Part favoured = new Part(all.way[3], 10);
            odds = at == line ? odds.and(favoured) : odds;
            left = left.less(favoured);
        }
        if (stands % 4 != 0) {
            Part heaped = left.times(new Part(all.way[1], 10));
            odds = at == nearest(stands) ? odds.and(heaped) : odds;
            left = left.less(heaped);
        }
        return at == stands ? odds.and(left) : odds;
    }

    long written(int line, int stands, int at, int part) {
        return height(line, stands, at) && bit(part) ? oddsOf(line, stands, at).tell(part) : LOST - 2;
    }

    long back(int m, int w, int line, int at, int stands, int part) {
        if (!height(m, line, at, stands) || !width(w) || !bit(part)) {
            return LOST - 2;
        }
        Part whole = new Part(0, 1);
        Part these = new Part(0, 1);
        for (int h = 0; h < 64; h++) {
            Part so = oddsOf(line, h, at).times(new Part(humpOf(m, w)[h], 1));
            whole = whole.and(so);
            these = h == stands ? so : these;
        }
        return new Part(these.upper.multiply(whole.lower), these.lower.multiply(whole.upper)).tell(part);
    }

    long pile(int b, int part) {
        if (!book(b)) {
            return LOST - 1;
        }
        if (!bit(part)) {
            return LOST - 2;
        }
        int whole = 0;
        for (int h = 0; h < 64; h++) {
            whole += h % 4 == 0 ? all.men[b][h] : 0;
        }
        return new Part(4L * whole, menOf(all.men[b])).tell(part);
    }

    private int grownFrom(int age) {
        int sum = 0;
        for (int a = age; a < 23; a++) {
            for (String item : all.growth.isEmpty() ? new String[0] : all.growth.split(";")) {
                String[] sides = item.split(":");
                if (Integer.parseInt(sides[0]) == a) {
                    sum += Integer.parseInt(sides[1]);
                    break;
                }
            }
        }
        return sum;
    }

    private Part grownMean(int b) {
        int age = all.entry[b][1];
        Part lied = new Part(all.way[4], 10);
        Part said = new Part(grownFrom(age), 1).times(new Part(1, 1).less(lied));
        return said.and(new Part(grownFrom(age - 1), 1).times(lied));
    }

    long grown(int b, int what, int part) {
        if (!book(b)) {
            return LOST - 1;
        }
        if (!bit(what, part)) {
            return LOST - 2;
        }
        return (what == 0 ? new Part(grownFrom(all.entry[b][1]), 1) : grownMean(b)).tell(part);
    }

    long right(int b, int w, int part) {
        if (!book(b)) {
            return LOST - 1;
        }
        return width(w) && bit(part) ? new Part(fit(b, w, 0), 1).and(grownMean(b)).tell(part) : LOST - 2;
    }

    /** null: nobody is of the line or more. */
    private static Part mixOf(int one, int two, int w, int line, int g) {
        long sum = 0;
        long count = 0;
        for (int h = line; h < 64; h++) {
            long men = g * humpOf(one, w)[h] + (100 - g) * humpOf(two, w)[h];
            sum += h * men;
            count += men;
        }
        return count == 0 ? null : new Part(sum, count);
    }

    long mix(int one, int two, int w, int line, int g, int part) {
        if (!height(one, two, line) || !width(w) || !in(g, 0, 100) || !bit(part)) {
            return LOST - 2;
        }
        Part mix = mixOf(one, two, w, line, g);
        return mix == null ? LOST - 5 : mix.tell(part);
    }

    long fall(int one, int two, int w, int line, int g, int h, int part) {
        if (!height(one, two, line) || !width(w) || !in(g, 0, 100) || !in(h, 0, 100) || !bit(part)) {
            return LOST - 2;
        }
        Part from = mixOf(one, two, w, line, g);
        Part to = mixOf(one, two, w, line, h);
        return from == null || to == null ? LOST - 5 : from.less(to).tell(part);
    }

    private static boolean shares(int v) {
        return v >= 0 && in(v / 1000, 0, 100) && in(v % 1000, 0, 100) && v / 1000 <= v % 1000;
    }

    long alone(int one, int two, int w, int line, int shares, int then, int end, int part) {
        if (!height(one, two, line) || !width(w) || !shares(shares) || !shares(then) || !bit(end, part)) {
            return LOST - 2;
        }
        Part[] mixes = new Part[101];
        for (int g = 0; g <= 100; g++) {
            mixes[g] = mixOf(one, two, w, line, g);
        }
        Part best = null;
        for (int g = shares / 1000; g <= shares % 1000; g++) {
            for (int h = then / 1000; h <= then % 1000; h++) {
                if (mixes[g] == null || mixes[h] == null) {
                    return LOST - 5;
                }
                Part fall = mixes[g].less(mixes[h]);
                int gap = best == null ? 0 : fall.less(best).upper.signum();
                best = best == null || (end == 0 ? gap < 0 : gap > 0) ? fall : best;
            }
        }
        return best.tell(part);
    }

    private Part meanOf(int[] men, int moved) {
        long sum = 0;
        for (int h = 0; h < 64; h++) {
            int to = h + moved < 0 ? 0 : h + moved > 63 ? 63 : h + moved;
            sum += (long) men[h] * to;
        }
        return new Part(sum, menOf(men));
    }

    long mean(int b, int part) {
        if (!book(b)) {
            return LOST - 1;
        }
        return bit(part) ? meanOf(all.men[b], 0).tell(part) : LOST - 2;
    }

    private int modeOf(int[] men) {
        int best = 0;
        for (int h = 63; h >= 0; h--) {
            best = men[h] >= men[best] ? h : best;
        }
        return best;
    }

    int mode(int b) {
        if (!book(b)) {
            return -1;
        }
        return menOf(all.men[b]) == 0 ? -6 : modeOf(all.men[b]);
    }

    long about(int b, int quarters, int end, int part) {
        if (!book(b)) {
            return LOST - 1;
        }
        if (!in(quarters, 0, 8) || !bit(end, part)) {
            return LOST - 2;
        }
        return all.entry[b][2] != 2 ? LOST - 3
                : meanOf(all.men[b], end == 0 ? -quarters : quarters).tell(part);
    }

    long beside(int b, int other, int w, int part) {
        if (!book(b) || !book(other)) {
            return LOST - 1;
        }
        if (!width(w) || !bit(part)) {
            return LOST - 2;
        }
        if (all.entry[b][2] != 1 || menOf(all.men[b]) == 0) {
            return LOST - 3;
        }
        return meanOf(all.men[b], 0).less(new Part(fit(other, w, 0), 1)).tell(part);
    }

    int shorter(int b, int other, int w, int slack) {
        if (!book(b) || !book(other)) {
            return -1;
        }
        if (!width(w) || !in(slack, 0, 999)) {
            return -2;
        }
        List<Integer> first = spanOf(b, w, slack);
        List<Integer> second = spanOf(other, w, slack);
        if (second.get(second.size() - 1) < first.get(0)) {
            return 2;
        }
        return second.get(0) < first.get(0) ? 1 : 0;
    }

    private long seed;

    private int draw(int by) {
        seed = (seed * 75 + 74) % 65537;
        return (int) (seed % by);
    }

    private int[] world(int line, int from, int m, int w, int n) {
        int[] men = new int[64];
        seed = from;
        List<Integer> stand = new ArrayList<>();
        for (int h = m - w; h <= m + w; h++) {
            for (long i = choose(2 * w, h - m + w); i > 0; i--) {
                stand.add(h);
            }
        }
        for (int i = 0; i < n; i++) {
            int h = stand.get(draw(stand.size()));
            if (!height(h)) {
                continue;
            }
            boolean favoured = false;
            boolean taken = true;
            if (h < line) {
                favoured = line - h <= all.way[2] && draw(10) < all.way[3];
                taken = favoured || draw(10) < all.way[0];
            }
            if (favoured) {
                men[line]++;
            } else if (taken) {
                men[h % 4 != 0 && draw(10) < all.way[1] ? nearest(h) : h]++;
            }
        }
        return men;
    }

    private static boolean worldly(int seed, int m, int w, int n) {
        return in(seed, 0, 9999) && height(m) && width(w) && in(n, 1, 200);
    }

    int make(int b, int seed, int m, int w, int n) {
        if (!book(b)) {
            return -1;
        }
        if (!worldly(seed, m, w, n)) {
            return -2;
        }
        all.men[b] = world(line(b), seed, m, w, n);
        return menOf(all.men[b]);
    }

    private int undone(int[] men, int line, int w, int rule) {
        switch (rule) {
            case 0:
                Part mean = meanOf(men, 0);
                return mean.upper.divide(mean.lower).intValue();
            case 1:
                return modeOf(men);
            case 2:
                return fitOf(men, w, line)[0];
            default:
                return foundOf(men, w)[1];
        }
    }

    int off(int b, int seed, int m, int w, int n, int worlds, int rule) {
        if (!book(b)) {
            return -1;
        }
        if (!worldly(seed, m, w, n) || !in(worlds, 1, 8) || !in(rule, 0, 3)) {
            return -2;
        }
        int sum = 0;
        for (int s = seed; s < seed + worlds; s++) {
            int[] men = world(line(b), s, m, w, n);
            sum += menOf(men) == 0 ? 63 : Math.abs(m - undone(men, line(b), w, rule));
        }
        return sum;
    }

    int best(int b, int seed, int m, int w, int n, int worlds) {
        if (!book(b)) {
            return -1;
        }
        if (!worldly(seed, m, w, n) || !in(worlds, 1, 8)) {
            return -2;
        }
        int best = 3;
        for (int rule = 2; rule >= 0; rule--) {
            best = off(b, seed, m, w, n, worlds, rule) <= off(b, seed, m, w, n, worlds, best) ? rule : best;
        }
        return best;
    }

    int image(int n) {
        if (!bit(n)) {
            return -2;
        }
        images[n] = all.copy();
        return 1;
    }

    int restore(int n) {
        if (!bit(n)) {
            return -2;
        }
        if (images[n] == null) {
            return -3;
        }
        all = images[n].copy();
        return 1;
    }

    int told(int what) {
        if (what == 0) {
            return pad.length();
        }
        if (what == 1 || what == 2) {
            String text = what == 1 ? all.rule : all.growth;
            return text.isEmpty() ? 0 : text.split(";").length;
        }
        if (in(what, 3, 7)) {
            return all.way[what - 3];
        }
        for (int b = 0; b < 6; b++) {
            if (what == 10 + b) {
                return menOf(all.men[b]);
            }
            for (int e = 0; e < 3; e++) {
                if (what == 20 + 10 * e + b) {
                    return all.entry[b][e];
                }
            }
        }
        return -2;
    }
}
