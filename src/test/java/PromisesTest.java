import java.lang.reflect.Method;
import java.lang.reflect.Modifier;
import java.util.Set;
import java.util.TreeSet;

/** For each promise of the document its ordinary answers, its edges and its refusals, worked out by hand. */
public final class PromisesTest {
    private static final int NONE = -1, UNKNOWN = -101, OUTSIDE = -102, STATE = -103, FULL = -104;
    private static final int[] WRONG = {-1, Integer.MIN_VALUE, Integer.MAX_VALUE, -101};
    private static final Due due = new Due();

    public static void main(String[] args) {
        due.runEach(PromisesTest.class);
        due.end("PromisesTest");
    }

    /** The test of a call bears its name; that of promise 1 is newObject(). */
    private static void eachCallHasATest() {
        Set<String> tests = new TreeSet<>();
        for (Method m : PromisesTest.class.getDeclaredMethods()) tests.add(m.getName());
        for (Method m : KneelingStones.class.getDeclaredMethods()) {
            if (Modifier.isPublic(m.getModifiers())) due.holds("a test of " + m.getName(), tests.contains(m.getName()));
        }
    }

    private static KneelingStones made() {
        return new KneelingStones();
    }

    private static void heights(String when, KneelingStones x, int... want) {
        for (int i = 0; i < 7; i++) due.is(when + ": height(" + i + ")", x.height(i), want[i]);
    }

    private static void heap(KneelingStones x, int... many) {
        for (int i = 0; i < many.length; i++) if (many[i] > 0) x.lay(i, many[i]);
    }

    private static void ratio(String what, long above, long below, long wantAbove, long wantBelow) {
        due.is(what + ", above", above, wantAbove);
        due.is(what + ", below", below, wantBelow);
    }

    // 1
    private static void newObject() {
        KneelingStones x = made();
        heights("new", x, 0, 0, 0, 0, 0, 0, 0);
        for (int what = 0; what <= 9; what++) due.is("new: count(" + what + ")", x.count(what), what == 4 ? 1 : 0);
        due.is("new: about(0, 0)", x.about(0, 0), UNKNOWN);
        due.is("new: customTold(0, 0)", x.customTold(0, 0), UNKNOWN);
        due.is("NONE", KneelingStones.NONE, NONE);
        due.is("UNKNOWN", KneelingStones.UNKNOWN, UNKNOWN);
        due.is("OUTSIDE", KneelingStones.OUTSIDE, OUTSIDE);
        due.is("STATE", KneelingStones.STATE, STATE);
        due.is("FULL", KneelingStones.FULL, FULL);
    }

    // 2
    private static void letters() {
        KneelingStones x = made();
        due.is("letters of nothing", x.letters(0), 0);
        due.is("letters of one", x.letters(1), 1);
        due.is("letters of 126", x.letters(126), 2);
        due.is("letters above 126", x.letters(127), OUTSIDE);
        due.is("letters of 128", x.letters(128), OUTSIDE);
        due.is("letters of 255", x.letters(255), OUTSIDE);
        due.is("letters, the highest byte above 126", x.letters(0x7f01010101010101L), OUTSIDE);
        due.is("letters of minus 1", x.letters(-1), OUTSIDE);
        due.is("letters behind a 0", x.letters(0x0100), OUTSIDE);
        due.is("letters behind a 0, the last byte", x.letters(0x0100000000000001L), OUTSIDE);
        due.is("letters behind a 0, far", x.letters(0x0101000101010101L), OUTSIDE);
        due.is("letters of eight", x.letters(0x7e01010101010101L), 10);
        due.is("letters above 16 by one", x.letters(0x01010101010101L), FULL);
        due.is("letters above 16 and outside", x.letters(0x7f010101010101L), OUTSIDE);
        due.is("letters of six to 16", x.letters(0x010101010101L), 16);
        due.is("letters behind 16", x.letters(1), FULL);
        due.is("no letters behind 16", x.letters(0), 16);
        due.is("count(9) of 16", x.count(9), 16);
        long h = digestOfNothing();
        KneelingStones y = made();
        Due.write(y, "~w");
        due.is("the order of letters", y.digest(), endOfDigest(31 * (31 * h + '~') + 'w', 2));
    }

    // 3
    private static void blank() {
        KneelingStones x = made();
        due.is("blank of nothing", x.blank(), 0);
        Due.write(x, "wxyzwxyzwxyzwxyz");
        due.is("blank of 16", x.blank(), 16);
        due.is("count(9) behind blank", x.count(9), 0);
        due.is("fault behind blank", x.fault(), 0);
        due.is("letters behind blank", Due.write(x, "w1"), 2);
        due.is("fault of new letters", x.fault(), 2);
        due.is("blank of two", x.blank(), 2);
    }

    // 4
    private static void fault() {
        String[] whole = {"", "w", "w0", "w6s", "w3s4", "wmsm", "wlsl", "wpsp", "wnsn", "w0s6f", "w0s6f1", "wns0f9"};
        for (String text : whole) due.is("fault of " + text, faultOf(text), text.length());
        due.is("fault of s", faultOf("s"), 0);
        due.is("fault of W", faultOf("W1s1"), 0);
        due.is("fault of w7", faultOf("w7s1"), 1);
        due.is("fault of w/", faultOf("w/s1"), 1);
        due.is("fault of wf", faultOf("wf"), 1);
        due.is("fault of wo", faultOf("wos1"), 1);
        due.is("fault of wk", faultOf("wks1"), 1);
        due.is("fault of w1w1", faultOf("w1w1"), 2);
        due.is("fault of w1f1", faultOf("w1f1"), 2);
        due.is("fault of w1s7", faultOf("w1s7"), 3);
        due.is("fault of w1sw", faultOf("w1sw"), 3);
        due.is("fault of w1s1s", faultOf("w1s1s"), 4);
        due.is("fault of w1s1f0", faultOf("w1s1f0"), 5);
        due.is("fault of w1s1f:", faultOf("w1s1f:"), 5);
        due.is("fault of w1s1fm", faultOf("w1s1fm"), 5);
        due.is("fault of w1s1f11", faultOf("w1s1f11"), 6);
        due.is("fault of two customs", faultOf("w1s1f1w1s1f1"), 6);
        due.is("the first of two faults", faultOf("w9s9"), 1);
        due.is("fault of a code of 1", faultOf("w1s1" + (char) 1), 4);
    }

    private static int faultOf(String text) {
        KneelingStones x = made();
        Due.write(x, text);
        int fault = x.fault();
        due.is("fault changes no letters of " + text, x.count(9), text.length());
        return fault;
    }

    // 5
    private static void custom() {
        for (String text : new String[] {"", "w", "w1", "w1s", "w1s1f", "w1s1f0", "w1s1f11", "w1s1w1s1", "s1w1", "W1s1"}) {
            KneelingStones x = made();
            Due.write(x, text);
            due.is("custom of " + text, x.custom(), STATE);
            due.is("no custom, the letters stay: " + text, x.count(9), text.length());
            due.is("no custom of " + text, x.count(1), 0);
        }
        KneelingStones x = made();
        for (int i = 0; i < 4; i++) {
            due.is("letters of a custom", Due.write(x, i % 2 == 0 ? "w1s2" : "w3s4f5"), i % 2 == 0 ? 4 : 6);
            due.is("custom", x.custom(), i);
            due.is("custom empties the page", x.count(9), 0);
        }
        due.is("a fifth custom of nothing", x.custom(), STATE);
        Due.write(x, "w1s1");
        due.is("a fifth custom", x.custom(), FULL);
        due.is("a fifth custom, the letters stay", x.count(9), 4);
        due.is("four customs", x.count(1), 4);
    }

    // 6
    private static void customTold() {
        KneelingStones x = made();
        String[] texts = {"w0s6", "wmslf1", "wpsnf9", "w5s1f4"};
        int[][] told = {{0, 6, 0}, {7, 8, 1}, {9, 10, 9}, {5, 1, 4}};
        for (int i = 0; i < 4; i++) {
            due.is("customTold before", x.customTold(i, 0), UNKNOWN);
            Due.custom(x, texts[i]);
            for (int what = 0; what < 3; what++) {
                due.is("customTold(" + i + ", " + what + ")", x.customTold(i, what), told[i][what]);
            }
            due.is("customTold of 3", x.customTold(i, 3), OUTSIDE);
            due.is("customTold of -1", x.customTold(i, -1), OUTSIDE);
        }
        due.is("customTold of custom 4", x.customTold(4, 0), UNKNOWN);
        for (int wrong : WRONG) {
            due.is("customTold of custom " + wrong, x.customTold(wrong, 0), UNKNOWN);
            due.is("customTold of custom and what " + wrong, x.customTold(wrong, wrong), UNKNOWN);
            due.is("customTold of what " + wrong, x.customTold(0, wrong), OUTSIDE);
        }
    }

    // 7
    private static void parish() {
        KneelingStones x = made();
        int[][] outside = {
            {-1, 0, 1, 0, 0}, {4, 0, 1, 0, 0}, {0, 1, 1, 0, 0}, {0, -1, 1, 0, 0}, {0, 2, 1, 0, 0},
            {1, 0, 1, 0, 0}, {1, 1, 1, 0, 0}, {1, 5, 1, 0, 0}, {2, -1, 1, 0, 0}, {2, 7, 1, 0, 0}, {3, -1, 1, 0, 0},
            {3, 7, 1, 0, 0}, {0, 0, 0, 0, 0}, {0, 0, 10, 0, 0}, {0, 0, 1, -1, 0}, {0, 0, 1, 11, 0},
            {0, 0, 1, 0, -1}, {0, 0, 1, 0, 11},
        };
        refuseAll(x, outside);
        int[][] inside = {{0, 0, 1, 0, 0}, {1, 2, 9, 10, 0}, {1, 4, 1, 0, 10}, {2, 0, 1, 10, 10}, {3, 6, 9, 0, 0}, {2, 6, 5, 5, 5}};
        for (int i = 0; i < 6; i++) {
            int[] p = inside[i];
            due.is("parish", x.parish(p[0], p[1], p[2], p[3], p[4]), i);
            due.is("parishes", x.count(0), i + 1);
        }
        due.is("a seventh parish", x.parish(0, 0, 1, 0, 0), FULL);
        refuseAll(x, outside);
        due.is("six parishes", x.count(0), 6);
        KneelingStones y = made();
        due.is("a pious of 3", y.parish(1, 3, 1, 1, 1), 0);
        due.is("boys of 0", y.parish(3, 0, 1, 1, 1), 1);
    }

    private static void refuseAll(KneelingStones x, int[][] rows) {
        int had = x.count(0);
        for (int[] p : rows) {
            due.is("parish(" + p[0] + ", " + p[1] + ", " + p[2] + ", " + p[3] + ", " + p[4] + ")",
                x.parish(p[0], p[1], p[2], p[3], p[4]), OUTSIDE);
        }
        due.is("parishes behind refusals", x.count(0), had);
    }

    // 8
    private static void as() {
        KneelingStones x = made();
        x.parish(3, 5, 1, 0, 0);
        x.parish(2, 5, 1, 0, 0);
        x.parish(1, 4, 1, 0, 0);
        x.parish(0, 0, 1, 0, 0);
        int[][] want = {{0, -1, 0, 0}, {1, -1, 1, -1}, {2, 2, -1, -1}, {3, -1, -1, -1}};
        for (int i = 0; i < 4; i++) {
            for (int kind = 0; kind < 4; kind++) due.is("as(" + i + ", " + kind + ")", x.as(i, kind), want[i][kind]);
            due.is("as of kind 4", x.as(i, 4), OUTSIDE);
            due.is("as of kind -1", x.as(i, -1), OUTSIDE);
        }
        due.is("as of parish 4", x.as(4, 0), UNKNOWN);
        due.is("as of parish 6", x.as(6, 4), UNKNOWN);
        for (int wrong : WRONG) {
            due.is("as of parish " + wrong, x.as(wrong, 0), UNKNOWN);
            due.is("as of both " + wrong, x.as(wrong, wrong), UNKNOWN);
            due.is("as of kind " + wrong, x.as(0, wrong), OUTSIDE);
        }
    }

    // 9
    private static void about() {
        KneelingStones x = made();
        int[][] rows = {{0, 0, 9, 1, 2, 1}, {1, 2, 8, 3, 4, 2}, {1, 4, 7, 5, 6, 4}, {2, 6, 6, 7, 8, 1}, {3, 3, 5, 9, 10, 1}};
        for (int i = 0; i < rows.length; i++) {
            int[] r = rows[i];
            due.is("about before", x.about(i, 0), UNKNOWN);
            x.parish(r[0], r[1], r[2], r[3], r[4]);
        }
        for (int i = 0; i < rows.length; i++) {
            for (int what = 0; what < 6; what++) due.is("about(" + i + ", " + what + ")", x.about(i, what), rows[i][what]);
            due.is("about of what 6", x.about(i, 6), OUTSIDE);
        }
        due.is("about of parish 5", x.about(5, 6), UNKNOWN);
        due.is("about of parish 6", x.about(6, 0), UNKNOWN);
        for (int wrong : WRONG) {
            due.is("about of parish " + wrong, x.about(wrong, 0), UNKNOWN);
            due.is("about of both " + wrong, x.about(wrong, wrong), UNKNOWN);
            due.is("about of what " + wrong, x.about(0, wrong), OUTSIDE);
        }
    }

    // 10
    private static void change() {
        KneelingStones x = made();
        x.parish(1, 3, 4, 5, 6);
        x.parish(0, 0, 1, 1, 1);
        due.is("change walkers", x.change(0, 2, 9), 4);
        due.is("change walkers again", x.change(0, 2, 1), 9);
        due.is("change wish", x.change(0, 3, 10), 5);
        due.is("change wish again", x.change(0, 3, 0), 10);
        due.is("change sin", x.change(0, 4, 0), 6);
        due.is("change sin again", x.change(0, 4, 10), 0);
        int[][] outside = {{2, 0}, {2, 10}, {3, -1}, {3, 11}, {4, -1}, {4, 11}, {1, 2}, {0, 0}, {5, 3}, {-1, 3}, {6, 1}};
        for (int[] o : outside) due.is("change(0, " + o[0] + ", " + o[1] + ")", x.change(0, o[0], o[1]), OUTSIDE);
        int[] want = {1, 3, 1, 0, 10, 3};
        for (int what = 0; what < 6; what++) due.is("changed: about(0, " + what + ")", x.about(0, what), want[what]);
        for (int what = 2; what < 5; what++) due.is("unchanged: about(1, " + what + ")", x.about(1, what), 1);
        due.is("change of parish 2", x.change(2, 2, 1), UNKNOWN);
        due.is("change of parish 2, outside", x.change(2, 9, 99), UNKNOWN);
        for (int wrong : WRONG) {
            due.is("change of parish " + wrong, x.change(wrong, 2, 1), UNKNOWN);
            due.is("change of what " + wrong, x.change(0, wrong, 1), OUTSIDE);
            due.is("change to " + wrong, x.change(0, 3, wrong), OUTSIDE);
        }
    }

    // 11
    private static void lay() {
        KneelingStones x = made();
        due.is("lay 1", x.lay(0, 1), 1);
        due.is("lay 60 on one", x.lay(0, 60), 60);
        due.is("one is spilt", x.count(8), 1);
        due.is("61 are laid", x.count(6), 61);
        due.is("lay 60", x.lay(6, 60), 60);
        due.is("none more is spilt", x.count(8), 1);
        due.is("lay 2 on 60", x.lay(6, 2), 60);
        due.is("two more are spilt", x.count(8), 3);
        due.is("lay 0", x.lay(1, 0), OUTSIDE);
        due.is("lay 61", x.lay(1, 61), OUTSIDE);
        due.is("lay on 7", x.lay(7, 1), UNKNOWN);
        due.is("lay 0 on 7", x.lay(7, 0), UNKNOWN);
        for (int wrong : WRONG) {
            due.is("lay on " + wrong, x.lay(wrong, 1), UNKNOWN);
            due.is("lay both " + wrong, x.lay(wrong, wrong), UNKNOWN);
            due.is("lay " + wrong, x.lay(1, wrong), OUTSIDE);
        }
        due.is("laid behind refusals", x.count(6), 123);
        due.is("LAST behind a hand", x.count(5), 0);
        due.is("THE SEED behind a hand", x.count(4), 1);
        heights("lay", x, 60, 0, 0, 0, 0, 0, 60);
    }

    // 12
    private static void take() {
        KneelingStones x = made();
        x.lay(3, 10);
        due.is("take 4", x.take(3, 4), 6);
        due.is("taken 4", x.count(7), 4);
        due.is("take 6", x.take(3, 6), 0);
        due.is("take of none", x.take(3, 1), 0);
        due.is("taken 10", x.count(7), 10);
        x.lay(3, 5);
        due.is("take 60 of 5", x.take(3, 60), 0);
        due.is("taken 15", x.count(7), 15);
        x.lay(3, 5);
        due.is("take 0", x.take(3, 0), OUTSIDE);
        due.is("take 61", x.take(3, 61), OUTSIDE);
        due.is("take off 7", x.take(7, 1), UNKNOWN);
        due.is("take 0 off 7", x.take(7, 0), UNKNOWN);
        for (int wrong : WRONG) {
            due.is("take off " + wrong, x.take(wrong, 1), UNKNOWN);
            due.is("take both " + wrong, x.take(wrong, wrong), UNKNOWN);
            due.is("take " + wrong, x.take(3, wrong), OUTSIDE);
        }
        heights("take", x, 0, 0, 0, 5, 0, 0, 0);
        due.is("laid behind takes", x.count(6), 20);
        due.is("LAST behind a hand's take", x.count(5), 0);
    }

    // 13
    private static void height() {
        KneelingStones x = made();
        heap(x, 1, 2, 3, 4, 5, 6, 60);
        heights("height", x, 1, 2, 3, 4, 5, 6, 60);
        due.is("height(7)", x.height(7), UNKNOWN);
        for (int wrong : WRONG) due.is("height(" + wrong + ")", x.height(wrong), UNKNOWN);
    }

    // 14
    private static void mark() {
        KneelingStones x = made();
        Due.custom(x, "w0s0");
        x.lay(2, 2);
        x.weeks(0, 7);
        x.lay(2, 3);
        int[] want = {7, 7, 7, 0, 0, -1};
        for (int deep = 0; deep < want.length; deep++) due.is("mark(2, " + deep + ")", x.mark(2, deep), want[deep]);
        due.is("mark(2, 59)", x.mark(2, 59), NONE);
        due.is("mark(1, 0)", x.mark(1, 0), NONE);
        x.take(2, 2);
        due.is("mark behind a take", x.mark(2, 0), 7);
        due.is("mark behind a take, deeper", x.mark(2, 1), 0);
        x.take(2, 2);
        x.weeks(0, 1);
        x.lay(2, 60);
        due.is("mark of a full cairn", x.mark(2, 0), 8);
        due.is("mark of a full cairn's lowest but one", x.mark(2, 58), 8);
        due.is("mark of a full cairn's lowest", x.mark(2, 59), 0);
        due.is("mark(2, 60)", x.mark(2, 60), OUTSIDE);
        due.is("mark(2, -1)", x.mark(2, -1), OUTSIDE);
        due.is("mark(7, 60)", x.mark(7, 60), UNKNOWN);
        for (int wrong : WRONG) {
            due.is("mark of " + wrong, x.mark(wrong, 0), UNKNOWN);
            due.is("mark of both " + wrong, x.mark(wrong, wrong), UNKNOWN);
            due.is("mark so deep: " + wrong, x.mark(2, wrong), OUTSIDE);
        }
    }

    // 15
    private static void dated() {
        KneelingStones x = made();
        Due.custom(x, "w0s0");
        x.lay(4, 2);
        x.lay(5, 60);
        x.weeks(0, 9);
        x.lay(4, 3);
        x.weeks(0, 1);
        x.lay(4, 1);
        due.is("dated(4, 0)", x.dated(4, 0), 2);
        due.is("dated(4, 9)", x.dated(4, 9), 3);
        due.is("dated(4, 10)", x.dated(4, 10), 1);
        due.is("dated(4, 1)", x.dated(4, 1), 0);
        due.is("dated(5, 0)", x.dated(5, 0), 60);
        due.is("dated(0, 0)", x.dated(0, 0), 0);
        x.take(4, 2);
        due.is("dated behind a take, 10", x.dated(4, 10), 0);
        due.is("dated behind a take, 9", x.dated(4, 9), 2);
        due.is("dated(4, 9999)", x.dated(4, 9999), 0);
        due.is("dated(4, 10000)", x.dated(4, 10000), OUTSIDE);
        due.is("dated(4, -1)", x.dated(4, -1), OUTSIDE);
        due.is("dated(7, 10000)", x.dated(7, 10000), UNKNOWN);
        for (int wrong : WRONG) {
            due.is("dated of " + wrong, x.dated(wrong, 0), UNKNOWN);
            due.is("dated of both " + wrong, x.dated(wrong, wrong), UNKNOWN);
            due.is("dated by " + wrong, x.dated(4, wrong), OUTSIDE);
        }
    }

    // 16
    private static void seed() {
        KneelingStones x = made();
        due.is("seed(0)", x.seed(0), 1);
        due.is("seed(-1)", x.seed(-1), OUTSIDE);
        due.is("seed of the least", x.seed(Integer.MIN_VALUE), OUTSIDE);
        due.is("seed of the most", x.seed(Integer.MAX_VALUE), 0);
        due.is("count(4)", x.count(4), Integer.MAX_VALUE);
        due.is("seed(7)", x.seed(7), Integer.MAX_VALUE);
        due.is("count(4) of 7", x.count(4), 7);
        Due.custom(x, "w0s0");
        x.parish(0, 0, 1, 10, 0);
        x.seed(0);
        x.weeks(0, 1);
        due.is("the seed behind 0", x.count(4), 12345);
        x.seed(1);
        x.weeks(0, 1);
        due.is("the seed behind 1", x.count(4), 1103527590);
        x.seed(Integer.MAX_VALUE);
        x.weeks(0, 1);
        due.is("the seed behind the most", x.count(4), ((1103515245L * Integer.MAX_VALUE + 12345) % (1L << 31)));
    }

    // 17
    private static void weeks() {
        KneelingStones x = made();
        Due.custom(x, "w4s4");
        due.is("weeks of nobody", x.weeks(0, 60), 0);
        due.is("THE SEED of nobody", x.count(4), 1);
        x.parish(0, 0, 2, 10, 0);
        due.is("one week", x.weeks(0, 1), 2);
        due.is("three weeks", x.weeks(0, 3), 8);
        due.is("WEEK", x.count(3), 64);
        due.is("the mark of a week", x.mark(4, 0), 64);
        due.is("the mark of the first week", x.mark(4, 7), 61);
        due.is("LAST of a wish", x.count(5), 4);
        due.is("no weeks", x.weeks(0, 0), OUTSIDE);
        due.is("61 weeks", x.weeks(0, 61), OUTSIDE);
        due.is("weeks by custom 1", x.weeks(1, 1), UNKNOWN);
        due.is("weeks by custom 1, outside", x.weeks(1, 0), UNKNOWN);
        for (int wrong : WRONG) {
            due.is("weeks by " + wrong, x.weeks(wrong, 1), UNKNOWN);
            due.is("weeks by both " + wrong, x.weeks(wrong, wrong), UNKNOWN);
            due.is("weeks " + wrong, x.weeks(0, wrong), OUTSIDE);
        }
        due.is("WEEK behind refusals", x.count(3), 64);
    }

    private static void lastWeeks() {
        KneelingStones x = made();
        Due.custom(x, "w0s0f7");
        for (int i = 0; i < 166; i++) x.weeks(0, 60);
        due.is("WEEK 9960", x.count(3), 9960);
        due.is("weeks to 10000", x.weeks(0, 40), STATE);
        due.is("weeks to 10000 by custom 1", x.weeks(1, 40), UNKNOWN);
        due.is("61 weeks to 10021", x.weeks(0, 61), OUTSIDE);
        due.is("WEEK behind STATE", x.count(3), 9960);
        x.lay(1, 3);
        due.is("weeks to 9999", x.weeks(0, 39), 3);
        due.is("WEEK 9999", x.count(3), 9999);
        due.is("one week more", x.weeks(0, 1), STATE);
        x.lay(1, 3);
        due.is("dated(1, 9999)", x.dated(1, 9999), 3);
        due.is("would goes on", x.would(0, 1, 60), 6);
    }

    private static void weekByRules() {
        KneelingStones x = made();
        Due.custom(x, "wlsm");
        Due.custom(x, "wmsl");
        Due.custom(x, "wpsn");
        Due.custom(x, "wns6");
        x.parish(0, 0, 2, 0, 0);
        x.parish(1, 3, 2, 10, 0);
        heap(x, 5, 5, 4, 4, 9, 9, 8);
        x.weeks(0, 1);
        heights("wish by l", x, 5, 5, 7, 7, 9, 9, 8);
        due.is("LAST by l", x.count(5), 3);
        x.weeks(1, 1);
        heights("wish by m", x, 5, 5, 7, 7, 15, 9, 8);
        due.is("LAST by m", x.count(5), 4);
        x.weeks(2, 1);
        heights("wish by p", x, 5, 11, 7, 7, 15, 9, 8);
        due.is("LAST by p", x.count(5), 1);
        x.weeks(3, 3);
        heights("wish by n", x, 8, 11, 10, 10, 18, 12, 11);
        due.is("LAST by n, round the ring", x.count(5), 0);
        x.change(1, 3, 0);
        x.change(1, 4, 10);
        x.weeks(3, 1);
        heights("sin by 6", x, 8, 11, 10, 10, 18, 12, 9);
        due.is("LAST by 6", x.count(5), 6);
        x.weeks(2, 1);
        heights("sin by n", x, 7, 10, 10, 10, 18, 12, 9);
        due.is("LAST by n of a sin", x.count(5), 1);
        x.weeks(1, 1);
        heights("sin by l", x, 5, 10, 10, 10, 18, 12, 9);
        x.weeks(0, 1);
        heights("sin by m", x, 5, 10, 10, 10, 16, 12, 9);
        due.is("LAST by m of a sin", x.count(5), 4);
        due.is("taken by sins", x.count(7), 8);
        due.is("laid by wishes", x.count(6), 44 + 36);
    }

    private static void sinOnEmpty() {
        KneelingStones x = made();
        Due.custom(x, "wpsp");
        Due.custom(x, "wns5");
        for (int i = 0; i < 6; i++) x.parish(0, 0, 1, 0, 10);
        heap(x, 1, 0, 2, 0, 0, 0, 0);
        x.weeks(0, 2);
        heights("sins by p", x, 0, 0, 0, 0, 0, 0, 0);
        due.is("taken as far as there are some", x.count(7), 3);
        due.is("LAST is 5 of an empty cairn", x.count(5), 5);
        x.parish(0, 0, 1, 0, 10);
        for (int i = 0; i < 6; i++) x.change(i, 3, 10);
        x.weeks(1, 1);
        heights("wishes by n behind 5", x, 1, 1, 1, 1, 1, 0, 1);
    }

    private static void weekOfSlyAndBoys() {
        KneelingStones x = made();
        Due.custom(x, "w0s1");
        x.parish(2, 4, 2, 0, 10);
        x.lay(1, 1);
        x.weeks(0, 3);
        x.lay(1, 1);
        heights("the sly moved one", x, 0, 1, 0, 0, 1, 0, 0);
        x.weeks(0, 1);
        heights("the sly moved both", x, 0, 0, 0, 0, 2, 0, 0);
        due.is("a moved one's mark, the later", x.mark(4, 0), 3);
        due.is("a moved one's mark, the first", x.mark(4, 1), 0);
        due.is("LAST of the sly is by the rule", x.count(5), 1);
        due.is("moved ones are not taken", x.count(7), 0);
        due.is("moved ones are not laid", x.count(6), 2);
        x.lay(4, 57);
        x.lay(1, 2);
        x.weeks(0, 1);
        heights("the sly spill one", x, 0, 0, 0, 0, 60, 0, 0);
        due.is("a moved one is spilt", x.count(8), 1);
        due.is("a spilt one is not taken", x.count(7), 0);
    }

    private static void slyOfItsOwn() {
        KneelingStones x = made();
        Due.custom(x, "w0s3");
        x.parish(2, 3, 5, 0, 10);
        x.lay(3, 60);
        x.weeks(0, 2);
        due.is("the sly take and lay on one full cairn", x.height(3), 60);
        due.is("and spill none", x.count(8), 0);
        due.is("and the mark stays", x.mark(3, 0), 0);
    }

    private static void boys() {
        KneelingStones x = made();
        Due.custom(x, "w0s1");
        x.parish(3, 6, 3, 0, 10);
        x.weeks(0, 1);
        due.is("LAST of boys, all empty", x.count(5), 0);
        heap(x, 0, 3, 0, 4, 0, 4, 0);
        x.weeks(0, 1);
        heights("boys take from that with most", x, 0, 2, 0, 3, 0, 3, 3);
        due.is("LAST of boys", x.count(5), 1);
        x.weeks(0, 1);
        heights("boys take on", x, 0, 2, 0, 2, 0, 3, 4);
        due.is("LAST of boys, who take and lay on 6", x.count(5), 6);
        due.is("boys' ones are not taken", x.count(7), 0);
        x.change(0, 3, 10);
        x.weeks(0, 1);
        heights("boys wish by the rule", x, 3, 2, 0, 2, 0, 3, 4);
        due.is("LAST of boys' wish", x.count(5), 0);
    }

    /** From seed 1 the draws are 8 8 3 5 1 7 0 9 2 6 9 7 4 0 5 3 9 3 7 6 6. */
    private static void weekByDraws() {
        KneelingStones x = made();
        Due.custom(x, "w2s5");
        x.parish(0, 0, 1, 5, 4);
        x.lay(5, 9);
        int[] twos = {0, 1, 1, 1, 1, 1, 1, 2};
        int[] fives = {9, 9, 8, 7, 6, 6, 6, 6};
        for (int week = 0; week < 8; week++) {
            x.weeks(0, 1);
            due.is("wishes by draws, week " + week, x.height(2), twos[week]);
            due.is("sins by draws, week " + week, x.height(5), fives[week]);
        }
        KneelingStones y = made();
        Due.custom(y, "w2s5");
        y.lay(5, 9);
        y.parish(0, 0, 2, 8, 10);
        y.parish(0, 0, 1, 4, 6);
        y.weeks(0, 2);
        heights("two parishes in order", y, 0, 0, 3, 0, 0, 6, 0);
    }

    private static void always() {
        KneelingStones x = made();
        Due.custom(x, "w2s5");
        x.parish(0, 0, 9, 0, 0);
        x.weeks(0, 60);
        int seed = x.count(4);
        KneelingStones y = made();
        Due.custom(y, "w2s5");
        y.parish(0, 0, 9, 10, 0);
        for (int i = 0; i < 2; i++) y.weeks(0, 60);
        due.is("who rests draws twice, who wishes once", y.count(4), seed);
        due.is("nobody wished or sinned", x.count(6) + x.count(7), 0);
        due.is("all wished", y.count(6), 1080);
    }

    private static void weekOfFloods() {
        KneelingStones x = made();
        Due.custom(x, "w0s0f3");
        Due.custom(x, "w0s0");
        Due.custom(x, "w0s0f1");
        heap(x, 20, 9, 12, 9, 30, 40, 50);
        x.weeks(0, 2);
        due.is("no flood in week 2", x.height(1), 9);
        x.weeks(0, 1);
        heights("a flood in week 3", x, 20, 4, 12, 9, 30, 40, 50);
        due.is("washed off ones are taken", x.count(7), 5);
        x.weeks(1, 3);
        due.is("no floods", x.height(1), 4);
        x.weeks(0, 3);
        heights("a flood in week 9", x, 20, 2, 12, 9, 30, 40, 50);
        x.weeks(2, 3);
        heights("floods in each week", x, 20, 0, 12, 9, 30, 40, 50);
        due.is("an empty one loses none", x.count(7), 9);
        due.is("floods change no LAST", x.count(5), 0);
        x.lay(1, 1);
        x.parish(0, 0, 2, 10, 0);
        Due.custom(x, "w1s0f1");
        x.weeks(3, 1);
        due.is("a flood in the end, from above", x.height(1), 1);
        due.is("a flood leaves the lowest", x.mark(1, 0), 12);
        due.is("LAST before a flood", x.count(5), 1);
    }

    // 18
    private static void would() {
        KneelingStones x = made();
        Due.custom(x, "w4s4");
        Due.custom(x, "w5s5f2");
        x.parish(0, 0, 2, 10, 0);
        x.lay(4, 1);
        long was = x.digest();
        due.is("would behind 0", x.would(0, 4, 0), 1);
        due.is("would behind 1", x.would(0, 4, 1), 3);
        due.is("would behind 60", x.would(0, 4, 60), 60);
        due.is("would by another", x.would(1, 5, 3), 6);
        due.is("would of another", x.would(0, 5, 3), 0);
        due.is("would -1", x.would(0, 4, -1), OUTSIDE);
        due.is("would 61", x.would(0, 4, 61), OUTSIDE);
        due.is("would of cairn 7", x.would(0, 7, 61), UNKNOWN);
        due.is("would by custom 2", x.would(2, 0, 61), UNKNOWN);
        for (int wrong : WRONG) {
            due.is("would by " + wrong, x.would(wrong, 0, 1), UNKNOWN);
            due.is("would of " + wrong, x.would(0, wrong, wrong), UNKNOWN);
            due.is("would behind " + wrong, x.would(0, 0, wrong), OUTSIDE);
        }
        due.is("would changes nothing", x.digest(), was);
        x.parish(0, 0, 3, 4, 7);
        int want = x.would(0, 4, 17);
        x.weeks(0, 17);
        due.is("would tells what comes", x.height(4), want);
    }

    // 19
    private static void order() {
        KneelingStones x = made();
        for (int i = 0; i < 7; i++) due.is("order of empty ones", x.order(i), i);
        heap(x, 3, 9, 3, 60, 0, 9, 4);
        int[] want = {3, 1, 5, 6, 0, 2, 4};
        for (int i = 0; i < 7; i++) due.is("order(" + i + ")", x.order(i), want[i]);
        due.is("order(7)", x.order(7), OUTSIDE);
        for (int wrong : WRONG) due.is("order(" + wrong + ")", x.order(wrong), OUTSIDE);
    }

    // 20
    private static void odds() {
        KneelingStones x = made();
        x.parish(0, 0, 2, 5, 5);
        x.parish(1, 3, 9, 3, 7);
        x.parish(2, 3, 1, 10, 10);
        x.parish(3, 3, 1, 0, 0);
        ratio("both wish", x.odds(0, 2, 0, 0), x.odds(0, 2, 0, 1), 1, 4);
        ratio("one wishes, one sins", x.odds(0, 1, 1, 0), x.odds(0, 1, 1, 1), 1, 4);
        ratio("one wishes, one rests", x.odds(0, 1, 0, 0), x.odds(0, 1, 0, 1), 1, 4);
        ratio("both rest", x.odds(0, 0, 0, 0), x.odds(0, 0, 0, 1), 1, 16);
        ratio("both sin", x.odds(0, 0, 2, 0), x.odds(0, 0, 2, 1), 1, 16);
        ratio("nine rest", x.odds(1, 0, 0, 0), x.odds(1, 0, 0, 1), 794280046581L, 1000000000000000000L);
        ratio("nine wish", x.odds(1, 9, 0, 0), x.odds(1, 9, 0, 1), 19683, 1000000000);
        ratio("nine sin", x.odds(1, 0, 9, 0), x.odds(1, 0, 9, 1), 1628413597910449L, 1000000000000000000L);
        ratio("it wishes always", x.odds(2, 1, 0, 0), x.odds(2, 1, 0, 1), 1, 1);
        ratio("it never sins", x.odds(2, 0, 1, 0), x.odds(2, 0, 1, 1), 0, 1);
        ratio("it never wishes", x.odds(3, 1, 0, 0), x.odds(3, 1, 0, 1), 0, 1);
        ratio("it rests always", x.odds(3, 0, 0, 0), x.odds(3, 0, 0, 1), 1, 1);
        int[][] outside = {{0, 3, 0, 0}, {0, 0, 3, 0}, {0, 2, 1, 0}, {0, -1, 1, 0}, {0, 1, -1, 0}, {1, 10, 0, 0},
            {1, 0, 10, 0}, {1, 5, 5, 0}, {0, 1, 1, -1}, {0, 1, 1, 2}, {1, 10, -1, 0}, {1, -1, 10, 0}};
        for (int[] o : outside) {
            due.is("odds(" + o[0] + ", " + o[1] + ", " + o[2] + ", " + o[3] + ")", x.odds(o[0], o[1], o[2], o[3]), OUTSIDE);
        }
        due.is("odds of parish 4", x.odds(4, 0, 0, 0), UNKNOWN);
        due.is("odds of parish 4, outside", x.odds(4, 99, 0, 7), UNKNOWN);
        for (int wrong : WRONG) {
            due.is("odds of " + wrong, x.odds(wrong, 0, 0, 0), UNKNOWN);
            due.is("odds of wishes " + wrong, x.odds(0, wrong, 0, 0), OUTSIDE);
            due.is("odds of sins " + wrong, x.odds(0, 0, wrong, 0), OUTSIDE);
            due.is("odds of part " + wrong, x.odds(0, 0, 0, wrong), OUTSIDE);
        }
        due.is("odds of the most of both", x.odds(0, Integer.MAX_VALUE, Integer.MAX_VALUE, 0), OUTSIDE);
    }

    // 21
    private static void chance() {
        KneelingStones x = made();
        x.parish(0, 0, 2, 5, 5);
        x.parish(2, 1, 2, 5, 5);
        x.parish(1, 2, 3, 5, 10);
        x.parish(1, 4, 9, 10, 0);
        x.parish(0, 0, 9, 0, 10);
        ratio("net 0 of two", x.chance(0, 0, 0), x.chance(0, 0, 1), 5, 16);
        ratio("net -2 of two", x.chance(0, -2, 0), x.chance(0, -2, 1), 1, 16);
        ratio("net 0 of two sly", x.chance(1, 0, 0), x.chance(1, 0, 1), 1, 4);
        ratio("net 1 of two sly", x.chance(1, 1, 0), x.chance(1, 1, 1), 1, 2);
        ratio("net -1 of two sly", x.chance(1, -1, 0), x.chance(1, -1, 1), 0, 1);
        ratio("net 3 of three pious", x.chance(2, 3, 0), x.chance(2, 3, 1), 3, 8);
        ratio("net 2 of three pious", x.chance(2, 2, 0), x.chance(2, 2, 1), 0, 1);
        ratio("net 36", x.chance(3, 36, 0), x.chance(3, 36, 1), 1, 1);
        ratio("net -9", x.chance(4, -9, 0), x.chance(4, -9, 1), 1, 1);
        due.is("chance of net 37", x.chance(3, 37, 0), OUTSIDE);
        due.is("chance of net -10", x.chance(4, -10, 0), OUTSIDE);
        due.is("chance of part 2", x.chance(0, 0, 2), OUTSIDE);
        due.is("chance of parish 5", x.chance(5, 37, 2), UNKNOWN);
        for (int wrong : WRONG) {
            due.is("chance of " + wrong, x.chance(wrong, 0, 0), UNKNOWN);
            due.is("chance of part " + wrong, x.chance(0, 0, wrong), OUTSIDE);
            if (wrong != -1) due.is("chance of net " + wrong, x.chance(0, wrong, 0), OUTSIDE);
        }
    }

    // 22
    private static void sinned() {
        KneelingStones x = made();
        x.parish(0, 0, 2, 5, 5);
        x.parish(3, 1, 2, 5, 5);
        x.parish(1, 4, 9, 10, 0);
        x.parish(0, 0, 9, 0, 10);
        ratio("sinned by net 0", x.sinned(0, 0, 0), x.sinned(0, 0, 1), 4, 5);
        ratio("sinned by net 1", x.sinned(0, 1, 0), x.sinned(0, 1, 1), 0, 1);
        ratio("sinned by net -1", x.sinned(0, -1, 0), x.sinned(0, -1, 1), 1, 1);
        ratio("sinned by net 3", x.sinned(0, 3, 0), x.sinned(0, 3, 1), NONE, NONE);
        ratio("boys by net 0", x.sinned(1, 0, 0), x.sinned(1, 0, 1), 3, 4);
        ratio("boys by net 2", x.sinned(1, 2, 0), x.sinned(1, 2, 1), 0, 1);
        ratio("boys by net -1", x.sinned(1, -1, 0), x.sinned(1, -1, 1), NONE, NONE);
        ratio("pious by net 36", x.sinned(2, 36, 0), x.sinned(2, 36, 1), 0, 1);
        ratio("pious by net 35", x.sinned(2, 35, 0), x.sinned(2, 35, 1), NONE, NONE);
        ratio("all nine sinned", x.sinned(3, -9, 0), x.sinned(3, -9, 1), 1, 1);
        due.is("sinned by net 37", x.sinned(2, 37, 0), OUTSIDE);
        due.is("sinned by net -10", x.sinned(3, -10, 0), OUTSIDE);
        due.is("sinned of part 2, no such net", x.sinned(0, 3, 2), OUTSIDE);
        due.is("sinned of parish 4", x.sinned(4, 37, 2), UNKNOWN);
        for (int wrong : WRONG) {
            due.is("sinned of " + wrong, x.sinned(wrong, 0, 0), UNKNOWN);
            due.is("sinned of part " + wrong, x.sinned(0, 0, wrong), OUTSIDE);
            if (wrong != -1) due.is("sinned by net " + wrong, x.sinned(0, wrong, 0), OUTSIDE);
        }
    }

    private static void bounded(String who, KneelingStones x, int net, int few, int most, int must, int may) {
        due.is(who + ": bounds(" + net + ", 0)", x.bounds(net, 0), few);
        due.is(who + ": bounds(" + net + ", 1)", x.bounds(net, 1), most);
        due.is(who + ": bounds(" + net + ", 2)", x.bounds(net, 2), must);
        due.is(who + ": bounds(" + net + ", 3)", x.bounds(net, 3), may);
    }

    // 23
    private static void bounds() {
        KneelingStones x = made();
        bounded("nobody", x, 0, 0, 0, 0, 0);
        bounded("nobody", x, 1, NONE, NONE, 0, 0);
        bounded("nobody", x, -54, NONE, NONE, 0, 0);
        bounded("nobody", x, 216, NONE, NONE, 0, 0);
        due.is("bounds(-55, 0)", x.bounds(-55, 0), OUTSIDE);
        due.is("bounds(217, 0)", x.bounds(217, 0), OUTSIDE);
        due.is("bounds(0, 4)", x.bounds(0, 4), OUTSIDE);
        for (int wrong : WRONG) {
            due.is("bounds of what " + wrong, x.bounds(0, wrong), OUTSIDE);
            if (wrong > -55 || wrong < -54) due.is("bounds of both " + wrong, x.bounds(wrong, wrong), OUTSIDE);
        }
        due.is("bounds of the least net", x.bounds(Integer.MIN_VALUE, 0), OUTSIDE);
        due.is("bounds of the most net", x.bounds(Integer.MAX_VALUE, 3), OUTSIDE);
        x.parish(0, 0, 2, 5, 5);
        bounded("two", x, 0, 0, 1, 0, 1);
        bounded("two", x, 1, 0, 0, 0, 0);
        bounded("two", x, -1, 1, 1, 1, 1);
        bounded("two", x, -2, 2, 2, 1, 1);
        bounded("two", x, -3, NONE, NONE, 0, 0);
        x.parish(0, 0, 2, 5, 5);
        bounded("two and two", x, -1, 1, 2, 0, 3);
        bounded("two and two", x, -3, 3, 3, 3, 3);
        bounded("two and two", x, 4, 0, 0, 0, 0);
        bounded("two and two", x, 2, 0, 1, 0, 3);
    }

    private static void allOfOneMind() {
        KneelingStones x = made();
        for (int i = 0; i < 6; i++) x.parish(0, 0, 9, 0, 10);
        bounded("all sin", x, -54, 54, 54, 63, 63);
        bounded("all sin", x, -53, NONE, NONE, 0, 0);
        KneelingStones y = made();
        for (int i = 0; i < 6; i++) y.parish(1, 4, 9, 10, 10);
        bounded("all wish", y, 216, 0, 0, 0, 0);
        bounded("all wish", y, 212, NONE, NONE, 0, 0);
    }

    private static void boundsOfKinds() {
        KneelingStones x = made();
        x.parish(1, 3, 1, 5, 5);
        x.parish(2, 0, 2, 5, 5);
        bounded("a pious and two sly", x, 0, 0, 2, 0, 3);
        bounded("a pious and two sly", x, 2, 0, 0, 0, 0);
        bounded("a pious and two sly", x, 3, 0, 2, 0, 2);
        bounded("a pious and two sly", x, -1, 1, 3, 1, 3);
        bounded("a pious and two sly", x, 1, 0, 1, 0, 3);
        x.change(1, 4, 10);
        bounded("sly that never rest", x, 0, 2, 2, 2, 3);
        bounded("sly that never rest", x, 3, 2, 2, 2, 2);
        bounded("sly that never rest", x, 1, 1, 1, 0, 3);
        KneelingStones y = made();
        y.parish(0, 0, 2, 5, 10);
        bounded("two that never rest", y, 0, 1, 1, 1, 1);
        bounded("two that never rest", y, 1, NONE, NONE, 0, 0);
        y.change(0, 4, 0);
        bounded("two that never sin", y, 1, 0, 0, 0, 0);
        bounded("two that never sin", y, -1, NONE, NONE, 0, 0);
        y.change(0, 3, 0);
        bounded("two that only rest", y, 0, 0, 0, 0, 0);
        bounded("two that only rest", y, 2, NONE, NONE, 0, 0);
        y.change(0, 4, 1);
        bounded("two that sin or rest", y, -1, 1, 1, 1, 1);
        KneelingStones w = made();
        w.parish(1, 2, 2, 10, 5);
        bounded("two that only wish", w, 4, 0, 0, 0, 0);
        bounded("two that only wish", w, 1, NONE, NONE, 0, 0);
        bounded("two that only wish", w, 2, NONE, NONE, 0, 0);
        w.change(0, 3, 1);
        bounded("two that seldom wish", w, 4, 0, 0, 0, 0);
        bounded("two that seldom wish", w, 1, 1, 1, 1, 1);
        w.change(0, 3, 9);
        w.change(0, 4, 9);
        bounded("two that seldom rest", w, 0, 0, 0, 0, 0);
        bounded("two that seldom rest", w, -1, 1, 1, 1, 1);
        KneelingStones z = made();
        z.parish(3, 0, 9, 5, 5);
        z.parish(1, 2, 9, 0, 0);
        bounded("boys", z, 0, 0, 9, 0, 1);
        bounded("boys", z, 9, 0, 0, 0, 0);
        bounded("boys", z, 8, 0, 1, 0, 1);
    }

    // 24
    private static void shows() {
        KneelingStones x = made();
        Due.custom(x, "w4s0");
        x.parish(0, 0, 1, 10, 0);
        x.lay(4, 3);
        long was = x.digest();
        due.is("shows by like ones", x.shows(0, 0, 3), 0);
        due.is("shows by one more", x.shows(0, 0, 4), 1);
        due.is("shows by 60", x.shows(0, 0, 60), 57);
        due.is("shows with none laid", x.shows(0, 0, 0), 0);
        due.is("shows of the one that grows", x.shows(0, 4, 0), NONE);
        due.is("shows of it, spilling", x.shows(0, 4, 60), NONE);
        due.is("shows -1", x.shows(0, 0, -1), OUTSIDE);
        due.is("shows 61", x.shows(0, 0, 61), OUTSIDE);
        due.is("shows on 7", x.shows(0, 7, 61), UNKNOWN);
        due.is("shows by custom 1", x.shows(1, 0, 61), UNKNOWN);
        for (int wrong : WRONG) {
            due.is("shows by " + wrong, x.shows(wrong, 0, wrong), UNKNOWN);
            due.is("shows on " + wrong, x.shows(0, wrong, wrong), UNKNOWN);
            due.is("shows " + wrong, x.shows(0, 0, wrong), OUTSIDE);
        }
        due.is("shows changes nothing", x.digest(), was);
        x.take(4, 3);
        due.is("shows behind 60 weeks", x.shows(0, 0, 60), 60);
        x.parish(0, 0, 1, 0, 10);
        due.is("shows of one that is taken", x.shows(0, 0, 9), 5);
        due.is("shows of all empty", x.shows(0, 0, 0), 0);
    }

    // 25
    private static void gone() {
        KneelingStones x = made();
        Due.custom(x, "w4s0");
        Due.custom(x, "w0s4");
        x.parish(0, 0, 1, 0, 10);
        heap(x, 60, 0, 5, 0, 7, 0, 0);
        long was = x.digest();
        due.is("gone behind 60", x.gone(0, 0), 60);
        due.is("gone now", x.gone(0, 1), 0);
        due.is("never gone", x.gone(0, 2), NONE);
        due.is("gone behind 7", x.gone(1, 4), 7);
        due.is("gone 7", x.gone(0, 7), UNKNOWN);
        due.is("gone by custom 2", x.gone(2, 0), UNKNOWN);
        for (int wrong : WRONG) {
            due.is("gone by " + wrong, x.gone(wrong, 0), UNKNOWN);
            due.is("gone " + wrong, x.gone(0, wrong), UNKNOWN);
        }
        due.is("gone changes nothing", x.digest(), was);
        Due.custom(x, "w6s6f1");
        due.is("gone by floods", x.gone(2, 6), 0);
        x.change(0, 4, 0);
        heap(x, 0, 9, 0, 9, 0, 9, 9);
        due.is("gone of 5 by floods", x.gone(2, 2), 3);
    }

    // 26
    private static void saved() {
        KneelingStones x = made();
        Due.custom(x, "w4s0");
        x.parish(0, 0, 1, 0, 10);
        x.lay(0, 3);
        long was = x.digest();
        due.is("saved for 1", x.saved(0, 0, 1), 0);
        due.is("saved for 2", x.saved(0, 0, 2), 0);
        due.is("saved for 3", x.saved(0, 0, 3), 1);
        due.is("saved for 59", x.saved(0, 0, 59), 57);
        due.is("saved for 60: never", x.saved(0, 0, 60), NONE);
        due.is("saved of an empty one", x.saved(0, 1, 60), 1);
        due.is("saved for 0", x.saved(0, 0, 0), OUTSIDE);
        due.is("saved for 61", x.saved(0, 0, 61), OUTSIDE);
        due.is("saved of 7", x.saved(0, 7, 0), UNKNOWN);
        due.is("saved by custom 1", x.saved(1, 0, 0), UNKNOWN);
        for (int wrong : WRONG) {
            due.is("saved by " + wrong, x.saved(wrong, 0, wrong), UNKNOWN);
            due.is("saved of " + wrong, x.saved(0, wrong, wrong), UNKNOWN);
            due.is("saved for " + wrong, x.saved(0, 0, wrong), OUTSIDE);
        }
        due.is("saved changes nothing", x.digest(), was);
        x.take(0, 3);
        due.is("saved from an empty one, for 59", x.saved(0, 0, 59), 60);
        x.change(0, 3, 10);
        due.is("saved from the first week on", x.saved(0, 4, 60), 0);
    }

    /** Too many laid on it make it the one with most, from which is taken. */
    private static void byMost() {
        KneelingStones x = made();
        Due.custom(x, "w5sm");
        x.parish(0, 0, 9, 0, 10);
        heap(x, 0, 9, 0, 0, 0, 0, 0);
        due.is("saved by hiding", x.saved(0, 2, 1), 1);
        due.is("saved for two weeks", x.saved(0, 2, 2), 10);
        due.is("saved of the one with most", x.saved(0, 1, 1), 1);
    }

    // 27
    private static void unlike() {
        KneelingStones x = made();
        Due.custom(x, "w4s0");
        Due.custom(x, "w5s0");
        Due.custom(x, "w4s1");
        x.parish(0, 0, 2, 10, 0);
        heap(x, 5, 5, 1, 1, 1, 1, 1);
        long was = x.digest();
        due.is("unlike behind 0", x.unlike(0, 1, 0), 0);
        due.is("unlike behind 3", x.unlike(0, 1, 3), 12);
        due.is("unlike the other way", x.unlike(1, 0, 3), 12);
        due.is("unlike itself", x.unlike(1, 1, 60), 0);
        due.is("unlike behind 60", x.unlike(0, 1, 60), 118);
        x.change(0, 3, 0);
        x.change(0, 4, 10);
        due.is("unlike by sins", x.unlike(0, 2, 2), 8);
        x.change(0, 3, 10);
        x.change(0, 4, 0);
        due.is("unlike for -1", x.unlike(0, 1, -1), OUTSIDE);
        due.is("unlike for 61", x.unlike(0, 1, 61), OUTSIDE);
        due.is("unlike by custom 3", x.unlike(3, 0, 61), UNKNOWN);
        due.is("unlike by custom 3 behind", x.unlike(0, 3, 61), UNKNOWN);
        for (int wrong : WRONG) {
            due.is("unlike by " + wrong, x.unlike(wrong, 0, wrong), UNKNOWN);
            due.is("unlike by the second " + wrong, x.unlike(0, wrong, wrong), UNKNOWN);
            due.is("unlike for " + wrong, x.unlike(0, 1, wrong), OUTSIDE);
        }
        due.is("unlike changes nothing", x.digest(), was);
    }

    // 28
    private static void lie() {
        KneelingStones x = made();
        for (int i = 0; i < 7; i++) due.is("lie of empty ones", x.lie(i), NONE);
        x.lay(0, 1);
        due.is("lie of the one", x.lie(0), 0);
        due.is("lie by the one", x.lie(6), 1);
        x.lay(1, 1);
        due.is("lie of like ones", x.lie(0), 1);
        due.is("lie by two of one each", x.lie(2), 2);
        heap(x, 59, 59, 60, 60, 60, 60, 60);
        due.is("lie of full ones", x.lie(3), 1);
        x.take(3, 60);
        due.is("lie among full ones, above 60 in all moved", x.lie(3), 53);
        x.take(4, 59);
        due.is("lie of one", x.lie(4), 50);
        due.is("lie changes nothing", x.height(4), 1);
        due.is("lie(7)", x.lie(7), UNKNOWN);
        for (int wrong : WRONG) due.is("lie(" + wrong + ")", x.lie(wrong), UNKNOWN);
        KneelingStones y = made();
        heap(y, 10, 4, 0, 0, 0, 0, 0);
        due.is("lie of 4 by 10", y.lie(1), 4);
        due.is("lie of 0 by 10 and 4", y.lie(2), 6);
    }

    // 29
    private static void image() {
        KneelingStones x = made();
        due.is("image of nothing", x.image(), 0);
        heap(x, 1, 2, 3, 0, 0, 0, 60);
        due.is("image of 66", x.image(), 66);
        x.lay(0, 5);
        due.is("image of 71", x.image(), 71);
        x.take(6, 60);
        due.is("the latest image", x.restore(), 71);
        due.is("image changes nothing", x.height(0), 6);
    }

    // 30
    private static void restore() {
        KneelingStones x = made();
        due.is("restore of none", x.restore(), STATE);
        Due.custom(x, "w3s0f5");
        x.parish(0, 0, 1, 5, 5);
        heap(x, 1, 60, 3, 4, 5, 6, 7);
        x.lay(1, 2);
        x.take(2, 1);
        x.seed(77);
        x.weeks(0, 9);
        long was = x.digest();
        int pebbles = x.count(2);
        due.is("image", x.image(), pebbles);
        x.weeks(0, 30);
        x.take(1, 60);
        x.lay(1, 60);
        x.lay(1, 3);
        due.is("restore", x.restore(), pebbles);
        due.is("the marks are of the image", x.mark(1, 50), 0);
        due.is("spilt ones are of the image", x.count(8), 2);
        due.is("all is as it was", x.digest(), was);
        x.weeks(0, 1);
        due.is("restore once more", x.restore(), pebbles);
        due.is("all is as it was once more", x.digest(), was);
        x.change(0, 2, 9);
        x.parish(1, 2, 1, 1, 1);
        Due.custom(x, "w1s1");
        x.letters('w');
        x.restore();
        due.is("parishes are not of the image", x.count(0), 2);
        due.is("walkers are not of the image", x.about(0, 2), 9);
        due.is("customs are not of the image", x.count(1), 2);
        due.is("letters are not of the image", x.count(9), 1);
    }

    // 31
    private static void count() {
        KneelingStones x = made();
        x.parish(2, 6, 1, 10, 0);
        x.parish(0, 0, 1, 0, 10);
        Due.custom(x, "w2s3f2");
        Due.custom(x, "w2s3");
        Due.custom(x, "w2s3");
        Due.write(x, "wwwww");
        heap(x, 9, 9, 59, 9, 9, 9, 9);
        x.lay(2, 3);
        x.seed(0);
        x.take(4, 8);
        x.weeks(0, 2);
        int[] want = {2, 3, 106, 2, x.count(4), 3, 118, 8 + 2 + 1, 2 + 1, 5};
        // Week 1 spills the wish and takes off cairn 3; week 2 spills and takes again, then one of cairn 4 is washed off.
        want[6] = 9 * 6 + 59 + 3 + 2;
        want[8] = 2 + 2;
        want[2] = want[6] - want[7] - want[8];
        for (int what = 0; what <= 9; what++) due.is("count(" + what + ")", x.count(what), want[what]);
        long seed = 0;
        for (int i = 0; i < 6; i++) seed = (1103515245L * seed + 12345) % (1L << 31);
        due.is("count(4)", x.count(4), seed);
        due.is("count(10)", x.count(10), OUTSIDE);
        for (int wrong : WRONG) due.is("count(" + wrong + ")", x.count(wrong), OUTSIDE);
    }

    // 32
    private static void digest() {
        KneelingStones x = made();
        due.is("digest of nothing", x.digest(), endOfDigest(digestOfNothing(), 0));
        Due.custom(x, "w4s6f9");
        Due.custom(x, "w5s6");
        x.parish(1, 3, 1, 10, 0);
        x.lay(0, 1);
        x.weeks(0, 1);
        x.lay(0, 1);
        Due.write(x, "s9");
        long h = 563;
        long[] numbers = {
            2, 1, 0, 0, 0, 0, 3, 1, 1, 1, 0, 0,
            1, 3, 1, 10, 0, 3,
            4, 6, 9, 2, 0, 0, 0, 9, 0, 0,
            5, 6, 0, 2, 0, 0, 0, 3, 6, 0,
            -1, -1, 0, 0,
            's', '9',
            1, 2, 5, 1, 1103527590, 4, 5, 0, 0, 2,
        };
        for (long number : numbers) h = 31 * h + number;
        due.is("digest of a little", x.digest(), h);
        due.is("digest changes nothing", x.digest(), h);
        x.parish(3, 5, 9, 4, 5);
        x.parish(0, 0, 3, 1, 7);
        x.change(0, 4, 3);
        x.lay(6, 50);
        x.weeks(1, 30);
        due.is("digest of more", x.digest(), digestByCalls(x, "s9"));
    }

    private static long digestByCalls(KneelingStones x, String letters) {
        long h = 563;
        for (int c = 0; c < 7; c++) {
            h = 31 * h + x.height(c);
            for (int deep = 0; deep < x.height(c); deep++) h = 31 * h + x.mark(c, deep);
        }
        for (int i = 0; i < x.count(0); i++) for (int what = 0; what < 6; what++) h = 31 * h + x.about(i, what);
        for (int i = 0; i < x.count(1); i++) {
            for (int what = 0; what < 3; what++) h = 31 * h + x.customTold(i, what);
            for (int c = 0; c < 7; c++) h = 31 * h + x.would(i, c, 2);
        }
        for (int what = 0; what < 4; what++) h = 31 * h + x.bounds(1, what);
        for (int i = 0; i < letters.length(); i++) h = 31 * h + letters.charAt(i);
        for (int what = 0; what < 10; what++) h = 31 * h + x.count(what);
        return h;
    }

    /** What digest() tells of a new object ahead of its letters. */
    private static long digestOfNothing() {
        long h = 563;
        for (int i = 0; i < 7; i++) h = 31 * h;
        h = 31 * (31 * h - 1) - 1;
        return 31 * 31 * h;
    }

    private static long endOfDigest(long before, int letters) {
        long h = before;
        for (int what = 0; what <= 9; what++) h = 31 * h + (what == 4 ? 1 : what == 9 ? letters : 0);
        return h;
    }
}
