/** Moors that the tests of edges begin with. */
final class Moors {
    static final int NONE = -1, UNKNOWN = -101, OUTSIDE = -102, STATE = -103, FULL = -104;
    static final int LEAST = Integer.MIN_VALUE, MOST = Integer.MAX_VALUE;
    /** Numbers that name no cairn, custom or parish in any state. */
    static final int[] NO_NUMBERS = {-1, 7, 60, -101, LEAST, MOST};

    private Moors() {
    }

    static KneelingStones empty() {
        return new KneelingStones();
    }

    static KneelingStones by(String... customs) {
        KneelingStones x = new KneelingStones();
        for (String custom : customs) Due.custom(x, custom);
        return x;
    }

    static void heap(KneelingStones x, int... many) {
        for (int i = 0; i < many.length; i++) if (many[i] > 0) x.lay(i, many[i]);
    }

    /** Six parishes, four customs, some of all on each cairn, letters on the page: nothing more can be made. */
    static KneelingStones crowded() {
        KneelingStones x = by("wmsl", "w3s4f9", "wns2f1", "wpsn");
        x.parish(0, 0, 9, 3, 5);
        x.parish(1, 2, 9, 4, 5);
        x.parish(1, 4, 9, 1, 9);
        x.parish(2, 0, 9, 5, 5);
        x.parish(2, 6, 9, 0, 10);
        x.parish(3, 3, 9, 2, 8);
        heap(x, 12, 25, 60, 1, 30, 7, 44);
        x.weeks(1, 3);
        Due.write(x, "w1s");
        return x;
    }

    /** In WEEK 9999, by one custom of which nobody lays or takes. */
    static KneelingStones old() {
        KneelingStones x = by("w0s0");
        for (int i = 0; i < 166; i++) x.weeks(0, 60);
        x.weeks(0, 39);
        return x;
    }

    static long nextSeed(long seed) {
        return (1103515245L * seed + 12345L) % 2147483648L;
    }

    static int drawOf(long seed) {
        return (int) (seed / 65536L % 10L);
    }

    /** The least seed from which the next draws are these. */
    static int seedBefore(int... draws) {
        for (int seed = 0; seed < 10000000; seed++) {
            long next = seed;
            int same = 0;
            while (same < draws.length && drawOf(next = nextSeed(next)) == draws[same]) same++;
            if (same == draws.length) return seed;
        }
        throw new IllegalStateException("no such seed");
    }

    /** The least seed from which, of the weeks of one walker who does a thing by 9 tenths, just the first passes idly. */
    static int seedOfOneIdleWeek(int weeks, boolean wishes) {
        for (int seed = 0; seed < 100000000; seed++) {
            if (idlesOnce(seed, weeks, wishes)) return seed;
        }
        throw new IllegalStateException("no such seed");
    }

    private static boolean idlesOnce(long before, int weeks, boolean wishes) {
        long seed = before;
        for (int week = 1; week <= weeks; week++) {
            seed = nextSeed(seed);
            // Who sins has drawn for a wish first; who does not wish draws for a sin, too.
            if (!wishes) seed = nextSeed(seed);
            boolean idle = drawOf(seed) == 9;
            if (idle != (week == 1)) return false;
            if (wishes && idle) seed = nextSeed(seed);
        }
        return true;
    }
}
