import java.math.BigInteger;
import java.util.ArrayList;
import java.util.Collections;
import java.util.HashMap;
import java.util.HashSet;
import java.util.List;
import java.util.Map;
import java.util.Set;

/** The document once more, in another way: stacks of marks, patterns for texts, every way walked one by one. */
final class Model {
    private static final int NONE = -1, UNKNOWN = -101, OUTSIDE = -102, STATE = -103, FULL = -104;

    /** What an image keeps. */
    private static final class World {
        final List<List<Integer>> cairns = new ArrayList<>();
        int week;
        int last;
        long seed = 1;
        int laid;
        int taken;
        int spilt;

        World() {
            for (int i = 0; i < 7; i++) cairns.add(new ArrayList<>());
        }

        World copy() {
            World w = new World();
            for (int i = 0; i < 7; i++) w.cairns.get(i).addAll(cairns.get(i));
            w.week = week;
            w.last = last;
            w.seed = seed;
            w.laid = laid;
            w.taken = taken;
            w.spilt = spilt;
            return w;
        }

        int size(int cairn) {
            return cairns.get(cairn).size();
        }

        int all() {
            int sum = 0;
            for (List<Integer> c : cairns) sum += c.size();
            return sum;
        }

        int draw() {
            seed = (seed * 1103515245L + 12345L) % 2147483648L;
            return (int) (seed / 65536L % 10L);
        }

        void drop(int cairn, int mark) {
            if (size(cairn) == 60) spilt++;
            else cairns.get(cairn).add(mark);
        }

        Integer lift(int cairn) {
            List<Integer> c = cairns.get(cairn);
            return c.isEmpty() ? null : c.remove(c.size() - 1);
        }

        List<Integer> ranked() {
            List<Integer> r = new ArrayList<>();
            for (int i = 0; i < 7; i++) r.add(i);
            r.sort((a, b) -> size(a) != size(b) ? size(b) - size(a) : a - b);
            return r;
        }

        int by(char rule, int parish) {
            if (rule == 'm') return ranked().get(0);
            if (rule == 'l') {
                int least = Collections.min(cairns.stream().map(List::size).toList());
                for (int i = 0; i < 7; i++) if (size(i) == least) return i;
            }
            if (rule == 'p') return parish;
            if (rule == 'n') return last == 6 ? 0 : last + 1;
            return rule - '0';
        }
    }

    private World now = new World();
    private World kept;
    private final StringBuilder page = new StringBuilder();
    private final List<String> customs = new ArrayList<>();
    private final List<int[]> parishes = new ArrayList<>();
    private final Map<String, Map<Integer, int[]>> knownBounds = new HashMap<>();

    int letters(long w) {
        StringBuilder more = new StringBuilder();
        boolean ended = false;
        for (int i = 0; i < 8; i++) {
            int code = (int) (w & 0xff);
            w >>>= 8;
            if (code >= 127 || ended && code != 0) return OUTSIDE;
            if (code == 0) ended = true;
            else more.append((char) code);
        }
        if (page.length() + more.length() > 16) return FULL;
        page.append(more);
        return page.length();
    }

    int blank() {
        int had = page.length();
        page.setLength(0);
        return had;
    }

    /** A text leads to a custom, if what is missing can be filled up from one. */
    private static boolean leads(String text) {
        String whole = "w0s0f1";
        return text.length() <= 6 && (text + whole.substring(text.length())).matches("w[0-6mlpn]s[0-6mlpn]f[1-9]");
    }

    int fault() {
        int i = 0;
        while (i < page.length() && leads(page.substring(0, i + 1))) i++;
        return i;
    }

    int custom() {
        if (!page.toString().matches("w[0-6mlpn]s[0-6mlpn](f[1-9])?") || page.indexOf("\n") >= 0) return STATE;
        if (customs.size() == 4) return FULL;
        customs.add(page.toString());
        page.setLength(0);
        return customs.size() - 1;
    }

    int customTold(int custom, int what) {
        if (noCustom(custom)) return UNKNOWN;
        if (what < 0 || what > 2) return OUTSIDE;
        String c = customs.get(custom);
        if (what == 2) return every(c);
        return "0123456mlpn".indexOf(c.charAt(1 + 2 * what));
    }

    private static int every(String c) {
        return c.length() == 4 ? 0 : c.charAt(5) - '0';
    }

    int parish(int kind, int n, int walkers, int wish, int sin) {
        int[] least = {0, 2, 0, 0};
        int[] most = {0, 4, 6, 6};
        if (kind < 0 || kind > 3 || n < least[kind] || n > most[kind]) return OUTSIDE;
        if (walkers < 1 || walkers > 9 || wish < 0 || wish > 10 || sin < 0 || sin > 10) return OUTSIDE;
        if (parishes.size() == 6) return FULL;
        parishes.add(new int[] {kind, n, walkers, wish, sin, kind == 1 ? n : 1});
        return parishes.size() - 1;
    }

    int as(int parish, int kind) {
        if (noParish(parish)) return UNKNOWN;
        if (kind < 0 || kind > 3) return OUTSIDE;
        int own = parishes.get(parish)[0];
        return kind == 0 || kind == own || kind == 2 && own == 3 ? parish : NONE;
    }

    int about(int parish, int what) {
        if (noParish(parish)) return UNKNOWN;
        return what < 0 || what > 5 ? OUTSIDE : parishes.get(parish)[what];
    }

    int change(int parish, int what, int v) {
        if (noParish(parish)) return UNKNOWN;
        if (what < 2 || what > 4 || v < (what == 2 ? 1 : 0) || v > (what == 2 ? 9 : 10)) return OUTSIDE;
        int was = parishes.get(parish)[what];
        parishes.get(parish)[what] = v;
        return was;
    }

    int lay(int cairn, int many) {
        if (noCairn(cairn)) return UNKNOWN;
        if (many < 1 || many > 60) return OUTSIDE;
        pile(now, cairn, many);
        return now.size(cairn);
    }

    private static void pile(World w, int cairn, int many) {
        for (int i = 0; i < many; i++) {
            w.drop(cairn, w.week);
            w.laid++;
        }
    }

    int take(int cairn, int many) {
        if (noCairn(cairn)) return UNKNOWN;
        if (many < 1 || many > 60) return OUTSIDE;
        for (int i = 0; i < many; i++) if (now.lift(cairn) != null) now.taken++;
        return now.size(cairn);
    }

    int height(int cairn) {
        return noCairn(cairn) ? UNKNOWN : now.size(cairn);
    }

    int mark(int cairn, int deep) {
        if (noCairn(cairn)) return UNKNOWN;
        if (deep < 0 || deep > 59) return OUTSIDE;
        return deep < now.size(cairn) ? now.cairns.get(cairn).get(now.size(cairn) - 1 - deep) : NONE;
    }

    int dated(int cairn, int week) {
        if (noCairn(cairn)) return UNKNOWN;
        if (week < 0 || week > 9999) return OUTSIDE;
        return Collections.frequency(now.cairns.get(cairn), week);
    }

    int seed(int v) {
        if (v < 0) return OUTSIDE;
        int was = (int) now.seed;
        now.seed = v;
        return was;
    }

    private void pass(World w, String custom) {
        w.week++;
        for (int i = 0; i < parishes.size(); i++) {
            int[] p = parishes.get(i);
            for (int walker = 0; walker < p[2]; walker++) walk(w, custom, i, p);
        }
        int every = every(custom);
        if (every == 0 || w.week % every != 0) return;
        int cairn = w.by('l', 0);
        int stay = w.size(cairn) / 2;
        while (w.size(cairn) > stay) {
            w.lift(cairn);
            w.taken++;
        }
    }

    private static void walk(World w, String custom, int number, int[] p) {
        if (w.draw() < p[3]) {
            int on = w.by(custom.charAt(1), number);
            pile(w, on, p[5]);
            w.last = on;
            return;
        }
        if (w.draw() >= p[4]) return;
        int from = w.by(p[0] == 3 ? 'm' : custom.charAt(3), number);
        w.last = from;
        Integer mark = w.lift(from);
        if (mark == null) return;
        if (p[0] >= 2) w.drop(p[1], mark);
        else w.taken++;
    }

    private World behind(int custom, int weeks) {
        World w = now.copy();
        for (int i = 0; i < weeks; i++) pass(w, customs.get(custom));
        return w;
    }

    int weeks(int custom, int weeks) {
        if (noCustom(custom)) return UNKNOWN;
        if (weeks < 1 || weeks > 60) return OUTSIDE;
        if (now.week + weeks > 9999) return STATE;
        now = behind(custom, weeks);
        return now.all();
    }

    int would(int custom, int cairn, int weeks) {
        if (noCustom(custom) || noCairn(cairn)) return UNKNOWN;
        return weeks < 0 || weeks > 60 ? OUTSIDE : behind(custom, weeks).size(cairn);
    }

    int order(int i) {
        return i < 0 || i > 6 ? OUTSIDE : now.ranked().get(i);
    }

    /** How many of 100 by each walker wish and sin just so: grown walker by walker. */
    private static BigInteger[][] table(int[] p) {
        BigInteger[][] t = new BigInteger[11][11];
        for (BigInteger[] row : t) java.util.Arrays.fill(row, BigInteger.ZERO);
        t[0][0] = BigInteger.ONE;
        BigInteger wish = BigInteger.valueOf(10L * p[3]);
        BigInteger sin = BigInteger.valueOf((10L - p[3]) * p[4]);
        BigInteger rest = BigInteger.valueOf((10L - p[3]) * (10L - p[4]));
        for (int walker = 0; walker < p[2]; walker++) {
            for (int w = 10; w >= 0; w--) {
                for (int s = 10; s >= 0; s--) {
                    BigInteger sum = t[w][s].multiply(rest);
                    if (w > 0) sum = sum.add(t[w - 1][s].multiply(wish));
                    if (s > 0) sum = sum.add(t[w][s - 1].multiply(sin));
                    t[w][s] = sum;
                }
            }
        }
        return t;
    }

    private static long lowest(BigInteger above, BigInteger below, int part) {
        BigInteger g = above.gcd(below);
        return (part == 0 ? above : below).divide(g).longValueExact();
    }

    private static BigInteger all(int[] p) {
        return BigInteger.valueOf(100).pow(p[2]);
    }

    private static BigInteger ofNet(int[] p, int net, boolean sinful) {
        BigInteger sum = BigInteger.ZERO;
        BigInteger[][] t = table(p);
        for (int w = 0; w < 11; w++) {
            for (int s = sinful ? 1 : 0; s < 11; s++) {
                if (w * p[5] - (p[0] >= 2 ? 0 : s) == net) sum = sum.add(t[w][s]);
            }
        }
        return sum;
    }

    long odds(int parish, int wishes, int sins, int part) {
        if (noParish(parish)) return UNKNOWN;
        if (wishes < 0 || wishes > 9 || sins < 0 || sins > 9 || part != 0 && part != 1) return OUTSIDE;
        int[] p = parishes.get(parish);
        if (wishes + sins > p[2]) return OUTSIDE;
        return lowest(table(p)[wishes][sins], all(p), part);
    }

    long chance(int parish, int net, int part) {
        if (noParish(parish)) return UNKNOWN;
        if (net < -9 || net > 36 || part != 0 && part != 1) return OUTSIDE;
        int[] p = parishes.get(parish);
        return lowest(ofNet(p, net, false), all(p), part);
    }

    long sinned(int parish, int net, int part) {
        if (noParish(parish)) return UNKNOWN;
        if (net < -9 || net > 36 || part != 0 && part != 1) return OUTSIDE;
        int[] p = parishes.get(parish);
        BigInteger below = ofNet(p, net, false);
        return below.signum() == 0 ? NONE : lowest(ofNet(p, net, true), below, part);
    }

    /** For each net: fewest and most sins, who sinned in all ways and in some; each way's outcome is kept apart. */
    private Map<Integer, int[]> allBounds() {
        StringBuilder key = new StringBuilder();
        for (int[] p : parishes) for (int number : p) key.append(number).append(' ');
        Map<Integer, int[]> known = knownBounds.get(key.toString());
        if (known != null) return known;
        Set<List<Integer>> ways = new HashSet<>();
        ways.add(List.of(0, 0, 0));
        for (int i = 0; i < parishes.size(); i++) {
            int[] p = parishes.get(i);
            for (int walker = 0; walker < p[2]; walker++) {
                Set<List<Integer>> more = new HashSet<>();
                for (List<Integer> way : ways) {
                    int net = way.get(0);
                    int sins = way.get(1);
                    int who = way.get(2);
                    if (p[3] > 0) more.add(List.of(net + p[5], sins, who));
                    if (p[3] < 10 && p[4] > 0) more.add(List.of(net - (p[0] >= 2 ? 0 : 1), sins + 1, who | 1 << i));
                    if (p[3] < 10 && p[4] < 10) more.add(way);
                }
                ways = more;
            }
        }
        Map<Integer, int[]> told = new HashMap<>();
        for (List<Integer> way : ways) {
            int[] t = told.computeIfAbsent(way.get(0), net -> new int[] {999, -1, 63, 0});
            t[0] = Math.min(t[0], way.get(1));
            t[1] = Math.max(t[1], way.get(1));
            t[2] &= way.get(2);
            t[3] |= way.get(2);
        }
        knownBounds.put(key.toString(), told);
        return told;
    }

    int bounds(int net, int what) {
        if (net < -54 || net > 216 || what < 0 || what > 3) return OUTSIDE;
        int[] t = allBounds().get(net);
        if (t == null) return what < 2 ? NONE : 0;
        return t[what];
    }

    int shows(int custom, int cairn, int many) {
        if (noCustom(custom) || noCairn(cairn)) return UNKNOWN;
        if (many < 0 || many > 60) return OUTSIDE;
        World w = now.copy();
        pile(w, cairn, many);
        for (int weeks = 0; weeks <= 60; weeks++) {
            List<Integer> ranked = w.ranked();
            boolean alone = ranked.get(0) == cairn && w.size(ranked.get(1)) < w.size(cairn);
            if (!alone) return weeks;
            pass(w, customs.get(custom));
        }
        return NONE;
    }

    int gone(int custom, int cairn) {
        if (noCustom(custom) || noCairn(cairn)) return UNKNOWN;
        World w = now.copy();
        for (int weeks = 0; weeks <= 60; weeks++) {
            if (w.size(cairn) == 0) return weeks;
            pass(w, customs.get(custom));
        }
        return NONE;
    }

    int saved(int custom, int cairn, int weeks) {
        if (noCustom(custom) || noCairn(cairn)) return UNKNOWN;
        if (weeks < 1 || weeks > 60) return OUTSIDE;
        for (int many = 0; many <= 60; many++) {
            World w = now.copy();
            pile(w, cairn, many);
            boolean empty = false;
            for (int i = 0; i < weeks && !empty; i++) {
                pass(w, customs.get(custom));
                empty = w.size(cairn) == 0;
            }
            if (!empty) return many;
        }
        return NONE;
    }

    int unlike(int a, int b, int weeks) {
        if (noCustom(a) || noCustom(b)) return UNKNOWN;
        if (weeks < 0 || weeks > 60) return OUTSIDE;
        World one = behind(a, weeks);
        World other = behind(b, weeks);
        int sum = 0;
        for (int i = 0; i < 7; i++) sum += Math.abs(one.size(i) - other.size(i));
        return sum;
    }

    /** Moves one by one from the tallest other. */
    int lie(int cairn) {
        if (noCairn(cairn)) return UNKNOWN;
        int[] size = new int[7];
        for (int i = 0; i < 7; i++) size[i] = now.size(i);
        for (int moved = 0; moved <= 420; moved++) {
            int tallest = cairn == 0 ? 1 : 0;
            for (int i = 0; i < 7; i++) if (i != cairn && size[i] > size[tallest]) tallest = i;
            if (size[cairn] > size[tallest]) return moved;
            if (size[tallest] == 0) return NONE;
            size[tallest]--;
            size[cairn]++;
        }
        return NONE;
    }

    int image() {
        kept = now.copy();
        return now.all();
    }

    int restore() {
        if (kept == null) return STATE;
        now = kept.copy();
        return now.all();
    }

    int count(int what) {
        int[] told = {parishes.size(), customs.size(), now.all(), now.week, (int) now.seed, now.last,
            now.laid, now.taken, now.spilt, page.length()};
        return what < 0 || what > 9 ? OUTSIDE : told[what];
    }

    long digest() {
        List<Long> numbers = new ArrayList<>();
        for (int c = 0; c < 7; c++) {
            numbers.add((long) height(c));
            for (int deep = 0; deep < height(c); deep++) numbers.add((long) mark(c, deep));
        }
        for (int i = 0; i < parishes.size(); i++) for (int what = 0; what < 6; what++) numbers.add((long) about(i, what));
        for (int i = 0; i < customs.size(); i++) {
            for (int what = 0; what < 3; what++) numbers.add((long) customTold(i, what));
            for (int c = 0; c < 7; c++) numbers.add((long) would(i, c, 2));
        }
        for (int what = 0; what < 4; what++) numbers.add((long) bounds(1, what));
        for (int i = 0; i < page.length(); i++) numbers.add((long) page.charAt(i));
        for (int what = 0; what < 10; what++) numbers.add((long) count(what));
        long h = 563;
        for (long number : numbers) h = 31 * h + number;
        return h;
    }

    private boolean noCustom(int custom) {
        return custom < 0 || custom >= customs.size();
    }

    private boolean noParish(int parish) {
        return parish < 0 || parish >= parishes.size();
    }

    private static boolean noCairn(int cairn) {
        return cairn < 0 || cairn > 6;
    }
}
