import java.lang.management.ManagementFactory;
import java.util.Random;

/** What calls make while they answer, and that no argument makes the machine throw or a refusal change anything. */
public final class RoomTest {
    private static final Due due = new Due();
    private static final int[] HOSTILE = {Integer.MIN_VALUE, Integer.MIN_VALUE + 1, -104, -60, -55, -10, -2, -1, 0, 1, 2, 3,
        4, 5, 6, 7, 8, 9, 10, 11, 36, 37, 59, 60, 61, 216, 217, 9999, 10000, Integer.MAX_VALUE - 1, Integer.MAX_VALUE};

    public static void main(String[] args) {
        callsMakeNothing();
        hostileArguments(new KneelingStones());
        hostileArguments(full());
        due.end("RoomTest");
    }

    private static KneelingStones full() {
        KneelingStones x = new KneelingStones();
        for (String text : new String[] {"wmsl", "wlsmf3", "wns2f1", "wpsn"}) Due.custom(x, text);
        for (int i = 0; i < 6; i++) x.parish(i % 4, i % 4 == 0 ? 0 : 2 + i % 3, 9, 3 + i % 4, 5);
        for (int i = 0; i < 7; i++) x.lay(i, 10 + 7 * i);
        x.image();
        return x;
    }

    private static void callsMakeNothing() {
        com.sun.management.ThreadMXBean threads = (com.sun.management.ThreadMXBean) ManagementFactory.getThreadMXBean();
        KneelingStones x = full();
        everyCall(x, 1);
        long before = threads.getCurrentThreadAllocatedBytes();
        long sum = everyCall(x, 100);
        long made = threads.getCurrentThreadAllocatedBytes() - before;
        due.holds("2500 calls make nothing, but made " + made + " bytes (" + sum + ")", made < 20000);
        before = threads.getCurrentThreadAllocatedBytes();
        x = full();
        made = threads.getCurrentThreadAllocatedBytes() - before;
        due.holds("an object is small, but has " + made + " bytes", made < 20000);
    }

    private static long everyCall(KneelingStones x, int times) {
        long sum = 0;
        for (int i = 0; i < times; i++) {
            sum += x.letters(0) + x.fault() + x.custom() + x.customTold(3, 2) + x.as(5, 3) + x.about(5, 5);
            sum += x.lay(i % 7, 3) + x.take(i % 7, 2) + x.mark(3, 9) + x.dated(3, 0) + x.seed(i) + x.weeks(i % 4, 2);
            sum += x.would(i % 4, 3, 60) + x.order(i % 7) + x.odds(i % 6, 4, 3, 0) + x.chance(i % 6, 3, 1);
            sum += x.sinned(i % 6, 2, 0) + x.bounds(i, i % 4) + x.shows(i % 4, i % 7, 60) + x.gone(i % 4, i % 7);
            sum += x.saved(i % 4, i % 7, 60) + x.unlike(0, i % 4, 60) + x.lie(i % 7) + x.image() + x.restore() + x.digest();
        }
        return sum;
    }

    /** Each call with arguments of which many are wrong: what it refuses changes nothing. */
    private static void hostileArguments(KneelingStones x) {
        Random random = new Random(9);
        for (int i = 0; i < 20000; i++) {
            long was = x.digest();
            int which = random.nextInt(29);
            long answer = hostileCall(x, which, random);
            boolean refused = answer <= -101 && answer >= -104;
            if (refused && which < 28) due.is("digest behind refused call " + which, x.digest(), was);
        }
    }

    private static int any(Random random) {
        return HOSTILE[random.nextInt(HOSTILE.length)];
    }

    private static long hostileCall(KneelingStones x, int which, Random random) {
        int a = any(random);
        int b = any(random);
        int c = any(random);
        int d = any(random);
        switch (which) {
            case 0: return x.letters(random.nextInt(4) == 0 ? random.nextLong() : a);
            case 1: return x.blank();
            case 2: return x.fault();
            case 3: return x.custom();
            case 4: return x.customTold(a, b);
            case 5: return x.parish(a, b, c, d, any(random));
            case 6: return x.as(a, b);
            case 7: return x.about(a, b);
            case 8: return x.change(a, b, c);
            case 9: return x.lay(a, b);
            case 10: return x.take(a, b);
            case 11: return x.height(a);
            case 12: return x.mark(a, b);
            case 13: return x.dated(a, b);
            case 14: return x.seed(a);
            case 15: return x.weeks(a, b);
            case 16: return x.would(a, b, c);
            case 17: return x.order(a);
            case 18: return x.odds(a, b, c, d);
            case 19: return x.chance(a, b, c);
            case 20: return x.sinned(a, b, c);
            case 21: return x.bounds(a, b);
            case 22: return x.shows(a, b, c);
            case 23: return x.gone(a, b);
            case 24: return x.saved(a, b, c);
            case 25: return x.unlike(a, b, c);
            case 26: return x.lie(a);
            case 27: return random.nextInt(9) == 0 ? x.restore() : x.image();
            default: return x.count(a);
        }
    }
}
