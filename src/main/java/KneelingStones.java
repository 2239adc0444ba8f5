import java.util.Arrays;

/**
 * Seven cairns of pebbles, the parishes whose walkers lay and take them, and the customs they go by.
 * The numbered promises of ../shared/DOC.md say what each call answers.
 *
 * All rows are made when an object is made and used again by every call: a call makes nothing,
 * but for the one parish or custom that parish() or custom() keeps.
 */
public final class KneelingStones {
    public static final int NONE = -1, UNKNOWN = -101, OUTSIDE = -102, STATE = -103, FULL = -104;

    private static final int CAIRNS = 7, TALLEST = 60;
    private static final int MOST_PARISHES = 6, MOST_WALKERS = 9, TENTHS = 10, MOST_GIFT = 4;
    private static final int MOST_CUSTOMS = 4, MOST_LETTERS = 16;
    private static final int MOST_WEEKS = 60, LAST_WEEK = 9999;
    private static final int KINDS = 4, PARISH = 0, PIOUS = 1, SLY = 2, BOYS = 3;
    private static final int BY_MOST = 7, BY_FEWEST = 8, BY_PARISH = 9, BY_NEXT = 10;
    private static final int LEAST_NET = -MOST_PARISHES * MOST_WALKERS;
    private static final int MOST_NET = MOST_PARISHES * MOST_WALKERS * MOST_GIFT;

    private final Page page = new Page();
    private final Custom[] customs = new Custom[MOST_CUSTOMS];
    private int customCount;
    private final Parish[] parishes = new Parish[MOST_PARISHES];
    private int parishCount;
    private final Moor now = new Moor();
    private final Moor kept = new Moor();
    private boolean isKept;
    /** The moor on which is tried what would be. */
    private final Moor dream = new Moor();
    private final int[] sizes = new int[CAIRNS];
    private final Ways ways = new Ways();

    public KneelingStones() {
    }

    // ---- customs

    public int letters(long w) {
        int more = Page.lettersIn(w);
        if (more < 0) return OUTSIDE;
        if (page.length + more > MOST_LETTERS) return FULL;
        page.write(w, more);
        return page.length;
    }

    public int blank() {
        int had = page.length;
        page.length = 0;
        return had;
    }

    public int fault() {
        return page.firstWrong();
    }

    public int custom() {
        if (!page.isCustom()) return STATE;
        if (customCount < 0 || customCount >= MOST_CUSTOMS) return FULL;
        customs[customCount] = page.asCustom();
        page.length = 0;
        customCount++;
        return customCount - 1;
    }

    public int customTold(int custom, int what) {
        Custom c = customAt(custom);
        if (c == null) return UNKNOWN;
        if (what < 0 || what > 2) return OUTSIDE;
        return c.told(what);
    }

    // ---- parishes, cairns

    public int parish(int kind, int n, int walkers, int wish, int sin) {
        if (!isKindWith(kind, n)) return OUTSIDE;
        if (!mayBe(2, walkers) || !mayBe(3, wish) || !mayBe(4, sin)) return OUTSIDE;
        if (parishCount < 0 || parishCount >= MOST_PARISHES) return FULL;
        Parish made = madeOf(kind, n);
        made.walkers = walkers;
        made.wish = wish;
        made.sin = sin;
        parishes[parishCount] = made;
        parishCount++;
        return parishCount - 1;
    }

    public int as(int parish, int kind) {
        Parish p = parishAt(parish);
        if (p == null) return UNKNOWN;
        if (kind < 0 || kind >= KINDS) return OUTSIDE;
        return isOf(p, kind) ? parish : NONE;
    }

    public int about(int parish, int what) {
        Parish p = parishAt(parish);
        if (p == null) return UNKNOWN;
        if (what < 0 || what > 5) return OUTSIDE;
        return p.told(what);
    }

    public int change(int parish, int what, int v) {
        Parish p = parishAt(parish);
        if (p == null) return UNKNOWN;
        if (!mayBe(what, v)) return OUTSIDE;
        int was = p.told(what);
        if (what == 2) p.walkers = v;
        else if (what == 3) p.wish = v;
        else p.sin = v;
        return was;
    }

    public int lay(int cairn, int many) {
        if (!isCairn(cairn)) return UNKNOWN;
        if (many < 1 || many > TALLEST) return OUTSIDE;
        now.layNew(cairn, many);
        return now.heights[cairn];
    }

    public int take(int cairn, int many) {
        if (!isCairn(cairn)) return UNKNOWN;
        if (many < 1 || many > TALLEST) return OUTSIDE;
        now.takeOff(cairn, many);
        return now.heights[cairn];
    }

    public int height(int cairn) {
        if (!isCairn(cairn)) return UNKNOWN;
        return now.heights[cairn];
    }

    public int mark(int cairn, int deep) {
        if (!isCairn(cairn)) return UNKNOWN;
        if (deep < 0 || deep >= TALLEST) return OUTSIDE;
        return now.markAt(cairn, deep);
    }

    public int dated(int cairn, int week) {
        if (!isCairn(cairn)) return UNKNOWN;
        if (week < 0 || week > LAST_WEEK) return OUTSIDE;
        int many = 0;
        for (int deep = 0; deep < now.heights[cairn]; deep++) {
            if (now.markAt(cairn, deep) == week) many++;
        }
        return many;
    }

    public int seed(int v) {
        if (v < 0) return OUTSIDE;
        int was = now.seed;
        now.seed = v;
        return was;
    }

    public int weeks(int custom, int weeks) {
        Custom c = customAt(custom);
        if (c == null) return UNKNOWN;
        if (weeks < 1 || weeks > MOST_WEEKS) return OUTSIDE;
        if (now.week + weeks > LAST_WEEK) return STATE;
        for (int i = 0; i < weeks; i++) now.goOneWeek(c, parishes);
        return now.pebbles();
    }

    public int would(int custom, int cairn, int weeks) {
        Custom c = customAt(custom);
        if (c == null || !isCairn(cairn)) return UNKNOWN;
        if (weeks < 0 || weeks > MOST_WEEKS) return OUTSIDE;
        dreamOf(c, weeks);
        return dream.heights[cairn];
    }

    public int order(int i) {
        if (i < 0 || i >= CAIRNS) return OUTSIDE;
        for (int cairn = 0; cairn < CAIRNS; cairn++) {
            if (now.aheadOf(cairn) == i) return cairn;
        }
        return NONE;
    }

    // ---- what is read

    public long odds(int parish, int wishes, int sins, int part) {
        Parish p = parishAt(parish);
        if (p == null) return UNKNOWN;
        if (wishes < 0 || wishes > MOST_WALKERS || sins < 0 || sins > MOST_WALKERS) return OUTSIDE;
        if (wishes + sins > p.walkers || part < 0 || part > 1) return OUTSIDE;
        return inLowest(Odds.of(p, wishes, sins), Odds.whole(p), part);
    }

    public long chance(int parish, int net, int part) {
        Parish p = parishAt(parish);
        if (p == null) return UNKNOWN;
        if (!isNetOfOne(net) || part < 0 || part > 1) return OUTSIDE;
        return inLowest(Odds.ofNet(p, net, 0), Odds.whole(p), part);
    }

    public long sinned(int parish, int net, int part) {
        Parish p = parishAt(parish);
        if (p == null) return UNKNOWN;
        if (!isNetOfOne(net) || part < 0 || part > 1) return OUTSIDE;
        long all = Odds.ofNet(p, net, 0);
        if (all == 0) return NONE;
        return inLowest(Odds.ofNet(p, net, 1), all, part);
    }

    public int bounds(int net, int what) {
        if (net < LEAST_NET || net > MOST_NET) return OUTSIDE;
        switch (what) {
            case 0: return ways.fewestSins(parishes, net);
            case 1: return ways.mostSins(parishes, net);
            case 2: return ways.whoMust(parishes, net);
            case 3: return ways.whoMay(parishes, net);
            default: return OUTSIDE;
        }
    }

    // ---- what would be

    public int shows(int custom, int cairn, int many) {
        Custom c = customAt(custom);
        if (c == null || !isCairn(cairn)) return UNKNOWN;
        if (many < 0 || many > TALLEST) return OUTSIDE;
        dream.become(now);
        dream.layNew(cairn, many);
        for (int behind = 0; behind <= MOST_WEEKS; behind++) {
            if (behind > 0) dream.goOneWeek(c, parishes);
            if (!dream.hasMostAlone(cairn)) return behind;
        }
        return NONE;
    }

    public int gone(int custom, int cairn) {
        Custom c = customAt(custom);
        if (c == null || !isCairn(cairn)) return UNKNOWN;
        dream.become(now);
        if (dream.heights[cairn] == 0) return 0;
        int first = dreamTillEmpty(c, cairn, MOST_WEEKS);
        return first > MOST_WEEKS ? NONE : first;
    }

    public int saved(int custom, int cairn, int weeks) {
        Custom c = customAt(custom);
        if (c == null || !isCairn(cairn)) return UNKNOWN;
        if (weeks < 1 || weeks > MOST_WEEKS) return OUTSIDE;
        // What is laid on a full cairn is spilt: more than fits changes nothing.
        int fits = TALLEST - now.heights[cairn];
        for (int more = 0; more <= fits && more <= TALLEST; more++) {
            dream.become(now);
            dream.layNew(cairn, more);
            if (dreamTillEmpty(c, cairn, weeks) > weeks) return more;
        }
        return NONE;
    }

    public int unlike(int a, int b, int weeks) {
        Custom one = customAt(a);
        Custom other = customAt(b);
        if (one == null || other == null) return UNKNOWN;
        if (weeks < 0 || weeks > MOST_WEEKS) return OUTSIDE;
        dreamOf(one, weeks);
        for (int i = 0; i < CAIRNS; i++) sizes[i] = dream.heights[i];
        dreamOf(other, weeks);
        int sum = 0;
        for (int i = 0; i < CAIRNS; i++) sum += Math.abs(sizes[i] - dream.heights[i]);
        return sum;
    }

    public int lie(int cairn) {
        if (!isCairn(cairn)) return UNKNOWN;
        int own = now.heights[cairn];
        int others = now.pebbles() - own;
        for (int moved = 0; moved <= others; moved++) {
            if (now.surplusOver(own + moved - 1, cairn) <= moved) return moved;
        }
        return NONE;
    }

    // ---- what is told of all

    public int image() {
        kept.become(now);
        isKept = true;
        return now.pebbles();
    }

    public int restore() {
        if (!isKept) return STATE;
        now.become(kept);
        return now.pebbles();
    }

    public int count(int what) {
        switch (what) {
            case 0: return parishCount;
            case 1: return customCount;
            case 2: return now.pebbles();
            case 3: return now.week;
            case 4: return now.seed;
            case 5: return now.last;
            case 6: return now.laid;
            case 7: return now.taken;
            case 8: return now.spilt;
            case 9: return page.length;
            default: return OUTSIDE;
        }
    }

    public long digest() {
        long h = withCairns(563);
        h = withParishes(h);
        h = withCustoms(h);
        for (int what = 0; what <= 3; what++) h = 31 * h + bounds(1, what);
        for (int i = 0; i < page.length && i < MOST_LETTERS; i++) h = 31 * h + page.codes[i];
        for (int what = 0; what <= 9; what++) h = 31 * h + count(what);
        return h;
    }

    private long withCairns(long before) {
        long h = before;
        for (int cairn = 0; cairn < CAIRNS; cairn++) {
            h = 31 * h + now.heights[cairn];
            for (int deep = 0; deep < now.heights[cairn]; deep++) h = 31 * h + now.markAt(cairn, deep);
        }
        return h;
    }

    private long withParishes(long before) {
        long h = before;
        for (int i = 0; i < MOST_PARISHES; i++) {
            Parish p = parishes[i];
            if (p == null) break;
            for (int what = 0; what <= 5; what++) h = 31 * h + p.told(what);
        }
        return h;
    }

    private long withCustoms(long before) {
        long h = before;
        for (int i = 0; i < MOST_CUSTOMS; i++) {
            Custom c = customs[i];
            if (c == null) break;
            for (int what = 0; what <= 2; what++) h = 31 * h + c.told(what);
            dream.become(now);
            dream.goOneWeek(c, parishes);
            dream.goOneWeek(c, parishes);
            for (int cairn = 0; cairn < CAIRNS; cairn++) h = 31 * h + dream.heights[cairn];
        }
        return h;
    }

    // ---- what the calls share

    private Custom customAt(int i) {
        return i < 0 || i >= MOST_CUSTOMS ? null : customs[i];
    }

    private Parish parishAt(int i) {
        return i < 0 || i >= MOST_PARISHES ? null : parishes[i];
    }

    private static boolean isCairn(int cairn) {
        return cairn >= 0 && cairn < CAIRNS;
    }

    private static boolean isNetOfOne(int net) {
        return net >= -MOST_WALKERS && net <= MOST_WALKERS * MOST_GIFT;
    }

    private static boolean isKindWith(int kind, int n) {
        switch (kind) {
            case PARISH: return n == 0;
            case PIOUS: return n >= 2 && n <= MOST_GIFT;
            case SLY: return isCairn(n);
            case BOYS: return isCairn(n);
            default: return false;
        }
    }

    /** If v may be the walkers (what = 2), the wish (3) or the sin (4) of a parish. */
    private static boolean mayBe(int what, int v) {
        switch (what) {
            case 2: return v >= 1 && v <= MOST_WALKERS;
            case 3: return v >= 0 && v <= TENTHS;
            case 4: return v >= 0 && v <= TENTHS;
            default: return false;
        }
    }

    private static Parish madeOf(int kind, int n) {
        switch (kind) {
            case PIOUS: return new Pious(n);
            case SLY: return new Sly(n);
            case BOYS: return new Boys(n);
            default: return new Parish(n);
        }
    }

    private static boolean isOf(Parish p, int kind) {
        switch (kind) {
            case PIOUS: return p instanceof Pious;
            case SLY: return p instanceof Sly;
            case BOYS: return p instanceof Boys;
            default: return true;
        }
    }

    /** So many weeks from now on, on the moor that is only dreamt of. */
    private void dreamOf(Custom c, int many) {
        dream.become(now);
        for (int i = 0; i < many; i++) dream.goOneWeek(c, parishes);
    }

    /** Behind how many weeks, from the first one on, the dream's cairn is empty; above many, if behind none. */
    private int dreamTillEmpty(Custom c, int cairn, int many) {
        for (int behind = 1; behind <= many; behind++) {
            dream.goOneWeek(c, parishes);
            if (isCairn(cairn) && dream.heights[cairn] == 0) return behind;
        }
        return many + 1;
    }

    private static long inLowest(long above, long below, int part) {
        long common = commonDivisor(above, below);
        if (common == 0) return OUTSIDE;
        return part == 0 ? above / common : below / common;
    }

    private static long commonDivisor(long above, long below) {
        long a = above;
        long b = below;
        // Of two longs the rests come to 0 behind less than a hundred steps.
        for (int i = 0; i < 200 && b != 0; i++) {
            long rest = a % b;
            a = b;
            b = rest;
        }
        return a;
    }

    /** The letters from which customs are read. */
    private static final class Page {
        final int[] codes = new int[MOST_LETTERS];
        int length;

        /** How many letters the bytes of w tell; below 0, if they tell none that may be. */
        static int lettersIn(long w) {
            int many = 0;
            for (int i = 0; i < 8; i++) {
                int code = codeAt(w, i);
                if (code > 126 || (code != 0 && many < i)) return -1;
                if (code != 0) many++;
            }
            return many;
        }

        static int codeAt(long w, int i) {
            return (int) ((w >>> (8 * i)) & 255);
        }

        void write(long w, int many) {
            for (int i = 0; i < many && length >= 0 && length < MOST_LETTERS; i++) {
                codes[length] = codeAt(w, i);
                length++;
            }
        }

        int firstWrong() {
            for (int i = 0; i < length; i++) {
                if (!fits(i, codeOf(i))) return i;
            }
            return length;
        }

        boolean isCustom() {
            return (length == 4 || length == 6) && firstWrong() == length;
        }

        Custom asCustom() {
            int every = length == 6 ? codeOf(5) - '0' : 0;
            return new Custom(ruleOf(codeOf(1)), ruleOf(codeOf(3)), every);
        }

        private int codeOf(int i) {
            return i < 0 || i >= MOST_LETTERS ? 0 : codes[i];
        }

        private static boolean fits(int place, int code) {
            switch (place) {
                case 0: return code == 'w';
                case 1: return ruleOf(code) != NONE;
                case 2: return code == 's';
                case 3: return ruleOf(code) != NONE;
                case 4: return code == 'f';
                case 5: return code >= '1' && code <= '9';
                default: return false;
            }
        }

        private static int ruleOf(int code) {
            if (code >= '0' && code <= '6') return code - '0';
            switch (code) {
                case 'm': return BY_MOST;
                case 'l': return BY_FEWEST;
                case 'p': return BY_PARISH;
                case 'n': return BY_NEXT;
                default: return NONE;
            }
        }
    }

    /** Where who wishes lays and who sins takes, and in which weeks there are floods. */
    private static final class Custom {
        final int wishRule;
        final int sinRule;
        final int every;

        Custom(int wishRule, int sinRule, int every) {
            this.wishRule = wishRule;
            this.sinRule = sinRule;
            this.every = every;
        }

        int told(int what) {
            if (what == 0) return wishRule;
            return what == 1 ? sinRule : every;
        }

        boolean floodsIn(int week) {
            return every > 0 && week % every == 0;
        }
    }

    private static class Parish {
        final int n;
        int walkers;
        int wish;
        int sin;

        Parish(int n) {
            this.n = n;
        }

        int kind() {
            return PARISH;
        }

        int gift() {
            return 1;
        }

        /** What one sin takes off the net. */
        int loss() {
            return 1;
        }

        /** The cairn on which is laid what was taken; NONE, if it is kept. */
        int hidesOn() {
            return NONE;
        }

        boolean sinsAtMost() {
            return false;
        }

        final int told(int what) {
            switch (what) {
                case 0: return kind();
                case 1: return n;
                case 2: return walkers;
                case 3: return wish;
                case 4: return sin;
                default: return gift();
            }
        }

        final boolean canWish() {
            return wish > 0;
        }

        final boolean canSin() {
            return wish < TENTHS && sin > 0;
        }

        final boolean canRest() {
            return wish < TENTHS && sin < TENTHS;
        }
    }

    private static final class Pious extends Parish {
        Pious(int n) {
            super(n);
        }

        int kind() {
            return PIOUS;
        }

        int gift() {
            return n;
        }
    }

    private static class Sly extends Parish {
        Sly(int n) {
            super(n);
        }

        int kind() {
            return SLY;
        }

        int loss() {
            return 0;
        }

        int hidesOn() {
            return n;
        }
    }

    private static final class Boys extends Sly {
        Boys(int n) {
            super(n);
        }

        int kind() {
            return BOYS;
        }

        boolean sinsAtMost() {
            return true;
        }
    }

    /** The cairns, the time, and what an image keeps. */
    private static final class Moor {
        final int[] heights = new int[CAIRNS];
        /** Of each cairn a stretch of TALLEST places, the lowest pebble first. */
        final int[] marks = new int[CAIRNS * TALLEST];
        int week;
        int last;
        int seed = 1;
        int laid;
        int taken;
        int spilt;

        void become(Moor m) {
            System.arraycopy(m.heights, 0, heights, 0, CAIRNS);
            System.arraycopy(m.marks, 0, marks, 0, CAIRNS * TALLEST);
            week = m.week;
            last = m.last;
            seed = m.seed;
            laid = m.laid;
            taken = m.taken;
            spilt = m.spilt;
        }

        int pebbles() {
            int sum = 0;
            for (int i = 0; i < CAIRNS; i++) sum += heights[i];
            return sum;
        }

        int markAt(int cairn, int deep) {
            if (!isCairn(cairn)) return NONE;
            int place = heights[cairn] - 1 - deep;
            if (place < 0 || place >= TALLEST) return NONE;
            return marks[cairn * TALLEST + place];
        }

        int most() {
            int best = 0;
            for (int i = 1; i < CAIRNS; i++) {
                if (heights[i] > heights[best]) best = i;
            }
            return best;
        }

        int fewest() {
            int best = 0;
            for (int i = 1; i < CAIRNS; i++) {
                if (heights[i] < heights[best]) best = i;
            }
            return best;
        }

        /** How many cairns stand ahead of one in the order by pebbles. */
        int aheadOf(int cairn) {
            if (!isCairn(cairn)) return NONE;
            int many = 0;
            for (int i = 0; i < CAIRNS; i++) {
                if (heights[i] > heights[cairn] || (heights[i] == heights[cairn] && i < cairn)) many++;
            }
            return many;
        }

        boolean hasMostAlone(int cairn) {
            return isCairn(cairn) && surplusOver(heights[cairn] - 1, cairn) == 0;
        }

        /** How many pebbles the cairns but one have above a level, together. */
        int surplusOver(int level, int but) {
            int sum = 0;
            for (int i = 0; i < CAIRNS; i++) {
                if (i != but && heights[i] > level) sum += heights[i] - level;
            }
            return sum;
        }

        void layNew(int cairn, int many) {
            for (int i = 0; i < many; i++) put(cairn, week);
            laid += many;
        }

        void takeOff(int cairn, int many) {
            if (!isCairn(cairn)) return;
            int off = Math.min(many, heights[cairn]);
            heights[cairn] -= off;
            taken += off;
        }

        void goOneWeek(Custom c, Parish[] all) {
            week++;
            for (int i = 0; i < all.length; i++) {
                Parish p = all[i];
                if (p == null) break;
                for (int walker = 0; walker < p.walkers; walker++) walk(c, p, i);
            }
            if (c.floodsIn(week)) flood();
        }

        private void walk(Custom c, Parish p, int number) {
            if (draw() < p.wish) {
                int on = cairnBy(c.wishRule, number);
                layNew(on, p.gift());
                last = on;
            } else if (draw() < p.sin) {
                int from = p.sinsAtMost() ? most() : cairnBy(c.sinRule, number);
                steal(from, p.hidesOn());
                last = from;
            }
        }

        private void steal(int from, int to) {
            if (to == NONE) {
                takeOff(from, 1);
                return;
            }
            int mark = markAt(from, 0);
            if (mark == NONE || !isCairn(from)) return;
            heights[from]--;
            put(to, mark);
        }

        private void flood() {
            int cairn = fewest();
            if (isCairn(cairn)) takeOff(cairn, (heights[cairn] + 1) / 2);
        }

        private void put(int cairn, int mark) {
            if (!isCairn(cairn)) return;
            int place = heights[cairn];
            if (place < 0 || place >= TALLEST) {
                spilt++;
                return;
            }
            marks[cairn * TALLEST + place] = mark;
            heights[cairn] = place + 1;
        }

        private int cairnBy(int rule, int number) {
            switch (rule) {
                case BY_MOST: return most();
                case BY_FEWEST: return fewest();
                case BY_PARISH: return number;
                case BY_NEXT: return (last + 1) % CAIRNS;
                default: return rule;
            }
        }

        private int draw() {
            seed = (int) ((1103515245L * seed + 12345L) & 0x7fffffffL);
            return (seed >> 16) % 10;
        }
    }

    /** How likely it is what a parish's walkers do: in parts of whole(), which is 100 for each walker. */
    private static final class Odds {
        static long whole(Parish p) {
            return power(TENTHS * TENTHS, p.walkers);
        }

        static long of(Parish p, int wishes, int sins) {
            int rests = p.walkers - wishes - sins;
            if (wishes < 0 || sins < 0 || rests < 0) return 0;
            int not = TENTHS - p.wish;
            // A factor of 0 makes all 0; without one no product on the way is above whole().
            return choices(p.walkers, wishes) * choices(p.walkers - wishes, sins)
                * power(TENTHS * p.wish, wishes)
                * power(not * p.sin, sins)
                * power(not * (TENTHS - p.sin), rests);
        }

        /** Of all ways with that net and at least so many sins. */
        static long ofNet(Parish p, int net, int leastSins) {
            long sum = 0;
            for (int wishes = 0; wishes <= p.walkers; wishes++) {
                for (int sins = leastSins; wishes + sins <= p.walkers; sins++) {
                    if (p.gift() * wishes - p.loss() * sins == net) sum += of(p, wishes, sins);
                }
            }
            return sum;
        }

        private static long power(int base, int times) {
            long product = 1;
            for (int i = 0; i < times; i++) product *= base;
            return product;
        }

        /** In how many ways some can be chosen from so many. */
        private static long choices(int from, int some) {
            long product = 1;
            for (int i = 1; i <= some; i++) product = product * (from + 1 - i) / i;
            return product;
        }
    }

    /**
     * What all walkers together can do: a row of the nets, and for each the least cost of a way to it,
     * built up walker by walker. A sin costs 1 for the fewest sins, -1 for the most.
     */
    private static final class Ways {
        private static final int NETS = MOST_NET - LEAST_NET + 1;
        private static final int NO_WAY = 1000;

        private int[] row = new int[NETS];
        private int[] next = new int[NETS];

        int fewestSins(Parish[] all, int net) {
            int cost = leastCost(all, net, 1);
            return cost == NO_WAY ? NONE : cost;
        }

        int mostSins(Parish[] all, int net) {
            int cost = leastCost(all, net, -1);
            return cost == NO_WAY ? NONE : -cost;
        }

        int whoMust(Parish[] all, int net) {
            if (leastCost(all, net, 1) == NO_WAY) return 0;
            int who = 0;
            for (int i = 0; i < all.length; i++) {
                if (all[i] != null && !canBeWithout(all, net, i)) who |= 1 << i;
            }
            return who;
        }

        int whoMay(Parish[] all, int net) {
            int who = 0;
            for (int i = 0; i < all.length; i++) {
                if (all[i] != null && canBeWith(all, net, i)) who |= 1 << i;
            }
            return who;
        }

        private int leastCost(Parish[] all, int net, int sinCost) {
            start();
            addAllBut(all, NONE, sinCost);
            return costOf(net);
        }

        /** If the net can be while none of one parish sins. */
        private boolean canBeWithout(Parish[] all, int net, int who) {
            if (who < 0 || who >= all.length) return false;
            Parish p = all[who];
            if (p == null) return false;
            start();
            addAllBut(all, who, 1);
            for (int i = 0; i < p.walkers; i++) addWalker(p, false, 1);
            return costOf(net) != NO_WAY;
        }

        /** If the net can be while one of one parish sins; its walkers are alike, so let it be the first. */
        private boolean canBeWith(Parish[] all, int net, int who) {
            if (who < 0 || who >= all.length) return false;
            Parish p = all[who];
            if (p == null || !p.canSin()) return false;
            start();
            addAllBut(all, who, 1);
            for (int i = 1; i < p.walkers; i++) addWalker(p, true, 1);
            return costOf(net + p.loss()) != NO_WAY;
        }

        private void start() {
            Arrays.fill(row, NO_WAY);
            row[-LEAST_NET] = 0;
        }

        private int costOf(int net) {
            int place = net - LEAST_NET;
            return place < 0 || place >= NETS ? NO_WAY : row[place];
        }

        private void addAllBut(Parish[] all, int but, int sinCost) {
            for (int i = 0; i < all.length; i++) {
                Parish p = all[i];
                if (p == null) break;
                if (i == but) continue;
                for (int walker = 0; walker < p.walkers; walker++) addWalker(p, true, sinCost);
            }
        }

        private void addWalker(Parish p, boolean maySin, int sinCost) {
            Arrays.fill(next, NO_WAY);
            boolean sins = maySin && p.canSin();
            for (int i = 0; i < NETS; i++) {
                int cost = row[i];
                if (cost == NO_WAY) continue;
                if (p.canWish()) offer(i + p.gift(), cost);
                if (sins) offer(i - p.loss(), cost + sinCost);
                if (p.canRest()) offer(i, cost);
            }
            int[] done = row;
            row = next;
            next = done;
        }

        private void offer(int place, int cost) {
            if (place >= 0 && place < NETS && cost < next[place]) next[place] = cost;
        }
    }
}
