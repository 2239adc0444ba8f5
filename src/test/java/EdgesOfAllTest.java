import java.util.ArrayList;
import java.util.List;
import java.util.function.Consumer;

/** Promises 29 to 32 and the refusals: each boundary that a sentence names, from both sides. */
public final class EdgesOfAllTest {
    private static final int OUTSIDE = Moors.OUTSIDE, STATE = Moors.STATE;
    private static final int LEAST = Moors.LEAST, MOST = Moors.MOST;
    private static final Due due = new Due();

    public static void main(String[] args) {
        due.runEach(EdgesOfAllTest.class);
        due.end("EdgesOfAllTest");
    }

    // ---- 29 image

    private static void imageOf0AndOf420Pebbles() {
        KneelingStones x = Moors.empty();
        due.is("of none", x.image(), 0);
        Moors.heap(x, 60, 60, 60, 60, 60, 60, 60);
        due.is("of 420", x.image(), 420);
        x.take(3, 60);
        due.is("restore", x.restore(), 420);
    }

    private static void imageIsOneTheLatest() {
        KneelingStones x = Moors.empty();
        x.lay(0, 1);
        x.image();
        x.lay(0, 1);
        x.image();
        x.lay(0, 1);
        due.is("the latest", x.restore(), 2);
        x.lay(0, 5);
        due.is("the latest once more", x.restore(), 2);
        x.lay(0, 7);
        x.image();
        x.take(0, 9);
        due.is("the newest", x.restore(), 9);
    }

    private static void imageChangesNothing() {
        KneelingStones x = Moors.crowded();
        long was = x.digest();
        x.image();
        due.is("digest()", x.digest(), was);
    }

    // ---- 30 restore

    private static void restoreIfNoneWasKept() {
        KneelingStones x = Moors.empty();
        due.refuses(x, "restore of a new one", x::restore, STATE);
        KneelingStones y = Moors.crowded();
        due.refuses(y, "restore of a crowded one", y::restore, STATE);
        y.image();
        due.is("restore of an image", y.restore(), y.count(2));
    }

    /** What an image keeps: all is changed behind it. */
    private static KneelingStones restored() {
        KneelingStones x = Moors.by("w5s0", "w6s1");
        x.parish(0, 0, 1, 10, 0);
        x.lay(2, 60);
        x.lay(2, 4);
        x.take(2, 10);
        x.weeks(0, 3);
        x.image();
        x.weeks(1, 9);
        x.take(2, 60);
        x.lay(2, 60);
        x.lay(2, 9);
        x.restore();
        return x;
    }

    private static void imageKeepsCairns() {
        int[] want = {0, 0, 50, 0, 0, 3, 0};
        for (int cairn = 0; cairn < 7; cairn++) due.is("height(" + cairn + ")", restored().height(cairn), want[cairn]);
    }

    private static void imageKeepsMarks() {
        KneelingStones x = restored();
        due.is("the uppermost of 2", x.mark(2, 0), 0);
        due.is("the lowest of 2", x.mark(2, 49), 0);
        due.is("the uppermost of 5", x.mark(5, 0), 3);
        due.is("the lowest of 5", x.mark(5, 2), 1);
    }

    private static void imageKeepsWeek() {
        due.is("WEEK", restored().count(3), 3);
    }

    private static void imageKeepsLast() {
        due.is("LAST", restored().count(5), 5);
    }

    private static void imageKeepsTheSeed() {
        long seed = 1;
        for (int i = 0; i < 3; i++) seed = Moors.nextSeed(seed);
        due.is("THE SEED", restored().count(4), seed);
    }

    private static void imageKeepsHowManyWereLaid() {
        due.is("laid", restored().count(6), 64 + 3);
    }

    private static void imageKeepsHowManyWereTaken() {
        due.is("taken", restored().count(7), 10);
    }

    private static void imageKeepsHowManyWereSpilt() {
        due.is("spilt", restored().count(8), 4);
    }

    private static void imageKeepsNoParishesCustomsOrLetters() {
        KneelingStones x = Moors.by("w5s0");
        x.parish(0, 0, 1, 10, 0);
        x.image();
        x.parish(1, 4, 2, 3, 4);
        x.change(0, 2, 9);
        Due.custom(x, "w6s1");
        Due.write(x, "wms");
        x.restore();
        due.is("PARISHES", x.count(0), 2);
        due.is("WALKERS", x.about(0, 2), 9);
        due.is("CUSTOMS", x.count(1), 2);
        due.is("letters", x.count(9), 3);
    }

    private static void itGoesOnFromTheImage() {
        KneelingStones x = Moors.crowded();
        x.image();
        x.weeks(0, 20);
        long want = x.digest();
        x.restore();
        x.weeks(0, 20);
        due.is("the same weeks once more", x.digest(), want);
    }

    private static void restoreTakesWeekBackFrom9999() {
        KneelingStones x = Moors.by("w0s0");
        x.image();
        for (int i = 0; i < 166; i++) x.weeks(0, 60);
        x.weeks(0, 39);
        due.refuses(x, "a week behind 9999", () -> x.weeks(0, 1), STATE);
        x.restore();
        due.is("weeks again", x.weeks(0, 60), 0);
        due.is("WEEK", x.count(3), 60);
    }

    private static void aRefusalLeavesTheImage() {
        KneelingStones x = Moors.crowded();
        x.image();
        long was = x.digest();
        x.weeks(0, 9);
        for (int wrong : new int[] {-1, 99, LEAST, MOST}) refuseAll(x, wrong);
        x.restore();
        due.is("digest()", x.digest(), was);
    }

    // ---- refusals

    private static void refuseAll(KneelingStones x, int wrong) {
        long[] answers = {
            x.letters(-1), x.custom(), x.customTold(wrong, 0), x.customTold(0, wrong), x.parish(wrong, 0, 1, 1, 1),
            x.parish(0, 0, 1, 1, 1), x.as(wrong, 0), x.as(0, wrong), x.about(wrong, 0), x.about(0, wrong),
            x.change(wrong, 2, 1), x.change(0, wrong, 1), x.change(0, 3, wrong), x.lay(wrong, 1), x.lay(0, wrong),
            x.take(wrong, 1), x.take(0, wrong), x.height(wrong), x.mark(wrong, 0), x.mark(0, wrong), x.dated(wrong, 0),
            x.weeks(wrong, 1), x.weeks(0, wrong), x.would(wrong, 0, 1), x.would(0, wrong, 1), x.would(0, 0, wrong),
            x.order(wrong), x.odds(wrong, 0, 0, 0), x.odds(0, wrong, 0, 0), x.odds(0, 0, wrong, 0), x.odds(0, 0, 0, wrong),
            x.chance(wrong, 0, 0), x.chance(0, 0, wrong), x.sinned(wrong, 0, 0), x.sinned(0, 0, wrong),
            x.bounds(0, wrong), x.shows(wrong, 0, 1), x.shows(0, wrong, 1), x.shows(0, 0, wrong), x.gone(wrong, 0),
            x.gone(0, wrong), x.saved(wrong, 0, 1), x.saved(0, wrong, 1), x.saved(0, 0, wrong), x.unlike(wrong, 0, 1),
            x.unlike(0, wrong, 1), x.unlike(0, 0, wrong), x.lie(wrong), x.count(wrong),
        };
        for (int i = 0; i < answers.length; i++) {
            due.holds("refusal " + i + " of " + wrong + " is " + answers[i], answers[i] <= -101 && answers[i] >= -104);
        }
    }

    private static void refusalsChangeNothing() {
        KneelingStones x = Moors.crowded();
        long was = x.digest();
        for (int wrong : new int[] {-1, 99, LEAST, MOST}) {
            refuseAll(x, wrong);
            due.is("digest() behind refusals of " + wrong, x.digest(), was);
        }
    }

    // ---- what each call leaves as it is

    /** A moor with something of all, an image of an earlier week, and a page that is a custom. */
    private static KneelingStones various() {
        KneelingStones x = Moors.by("w5sm", "wls2f2");
        x.parish(0, 0, 3, 5, 5);
        x.parish(2, 6, 2, 3, 9);
        Moors.heap(x, 3, 14, 15, 9, 26, 5, 58);
        x.lay(6, 7);
        x.weeks(1, 2);
        x.image();
        x.weeks(0, 5);
        x.take(1, 4);
        Due.write(x, "w1spf9");
        return x;
    }

    /** In the order of count(): all of the parishes, of the customs, of the cairns, then what count() tells. */
    private static long[] parts(KneelingStones x) {
        long[] parts = {7, 7, 7, x.count(3), x.count(4), x.count(5), x.count(6), x.count(7), x.count(8), x.count(9)};
        for (int i = 0; i < 6; i++) for (int what = 0; what <= 5; what++) parts[0] = 31 * parts[0] + x.about(i, what);
        for (int i = 0; i < 4; i++) for (int what = 0; what <= 2; what++) parts[1] = 31 * parts[1] + x.customTold(i, what);
        for (int i = 0; i < 7; i++) for (int deep = 0; deep < 60; deep++) parts[2] = 31 * parts[2] + x.mark(i, deep);
        return parts;
    }

    /** The parts that a call changes, and no other; of the image, what restore() brings back behind it. */
    private static void changes(String call, String changed, boolean image, Consumer<KneelingStones> run) {
        KneelingStones x = various();
        long[] was = parts(x);
        run.accept(x);
        long[] then = parts(x);
        for (int i = 0; i < was.length; i++) {
            boolean may = changed.indexOf('0' + i) >= 0;
            due.is(call + " changes part " + i, was[i] == then[i] ? 0 : 1, may ? 1 : 0);
        }
        KneelingStones y = various();
        y.restore();
        long[] kept = parts(y);
        x.restore();
        long[] back = parts(x);
        boolean same = true;
        for (int i = 2; i <= 8; i++) same = same && kept[i] == back[i];
        due.is(call + " changes the image", same ? 0 : 1, image ? 1 : 0);
    }

    private static void callsChangeWhatTheyTellAndNoMore() {
        changes("letters", "9", false, x -> x.letters('x'));
        changes("letters of none", "", false, x -> x.letters(0));
        changes("blank", "9", false, x -> x.blank());
        changes("custom", "19", false, x -> x.custom());
        changes("parish", "0", false, x -> x.parish(1, 4, 1, 0, 10));
        changes("change", "0", false, x -> x.change(1, 2, 9));
        changes("change to what it is", "", false, x -> x.change(1, 2, 2));
        changes("lay", "26", false, x -> x.lay(0, 4));
        changes("take", "27", false, x -> x.take(2, 4));
        changes("seed", "4", false, x -> x.seed(99));
        changes("weeks", "2345678", false, x -> x.weeks(0, 60));
        changes("image", "", true, x -> x.image());
        changes("restore", "234567", false, x -> x.restore());
    }

    private static void callsThatTellChangeNothing() {
        changes("fault", "", false, x -> x.fault());
        changes("customTold", "", false, x -> x.customTold(0, 0));
        changes("as", "", false, x -> x.as(0, 0));
        changes("about", "", false, x -> x.about(0, 0));
        changes("height", "", false, x -> x.height(0));
        changes("mark", "", false, x -> x.mark(0, 0));
        changes("dated", "", false, x -> x.dated(0, 0));
        changes("would", "", false, x -> x.would(1, 0, 60));
        changes("order", "", false, x -> x.order(0));
        changes("odds", "", false, x -> x.odds(0, 0, 0, 0));
        changes("chance", "", false, x -> x.chance(0, 0, 0));
        changes("sinned", "", false, x -> x.sinned(0, 0, 0));
        changes("bounds", "", false, x -> x.bounds(0, 2));
        changes("shows", "", false, x -> x.shows(0, 0, 60));
        changes("gone", "", false, x -> x.gone(1, 0));
        changes("saved", "", false, x -> x.saved(1, 0, 60));
        changes("unlike", "", false, x -> x.unlike(0, 1, 60));
        changes("lie", "", false, x -> x.lie(0));
        changes("count", "", false, x -> x.count(2));
        changes("digest", "", false, x -> x.digest());
    }

    // ---- 31 count

    private static void countWhat0To9() {
        KneelingStones x = Moors.crowded();
        for (int what = 0; what <= 9; what++) due.holds("what " + what, x.count(what) >= 0);
        for (int what : new int[] {-1, 10, LEAST, MOST}) due.refuses(x, "what " + what, () -> x.count(what), OUTSIDE);
    }

    private static void countsOfAFirstMoor() {
        KneelingStones x = Moors.empty();
        for (int what = 0; what <= 9; what++) due.is("what " + what, x.count(what), what == 4 ? 1 : 0);
    }

    private static void countsAtTheirMost() {
        KneelingStones x = Moors.old();
        for (int i = 0; i < 3; i++) Due.custom(x, "w0s0");
        for (int i = 0; i < 6; i++) x.parish(0, 0, 1, 0, 0);
        Moors.heap(x, 60, 60, 60, 60, 60, 60, 60);
        Due.write(x, "wwwwwwwwwwwwwwww");
        x.seed(MOST);
        int[] want = {6, 4, 420, 9999, MOST, 0, 420, 0, 0, 16};
        for (int what = 0; what <= 9; what++) due.is("what " + what, x.count(what), want[what]);
    }

    private static void laidCountsSpiltOnesNotMovedOnes() {
        KneelingStones x = Moors.by("w1s2");
        x.parish(2, 1, 1, 0, 10);
        Moors.heap(x, 0, 60, 2, 0, 0, 0, 0);
        x.lay(1, 3);
        x.weeks(0, 1);
        due.is("laid", x.count(6), 65);
        due.is("taken", x.count(7), 0);
        due.is("spilt", x.count(8), 4);
        x.take(1, 1);
        x.weeks(0, 1);
        due.is("laid, one more moved", x.count(6), 65);
        due.is("taken by hand", x.count(7), 1);
        due.is("spilt, it lies", x.count(8), 4);
        x.change(0, 3, 10);
        x.weeks(0, 1);
        due.is("laid by a wish, spilt", x.count(6), 66);
        due.is("spilt by a wish", x.count(8), 5);
    }

    private static void takenCountsWashedOffOnesNotMovedOnes() {
        KneelingStones x = Moors.by("w1s2f1");
        x.parish(0, 0, 1, 0, 10);
        x.parish(3, 1, 1, 0, 10);
        Moors.heap(x, 9, 9, 9, 9, 9, 9, 9);
        x.weeks(0, 1);
        // One is taken off 2; boys move one from 0 to 1; the flood takes four of the eight of 0.
        due.is("taken", x.count(7), 5);
        due.is("height(0)", x.height(0), 4);
        due.is("height(1)", x.height(1), 10);
        due.is("height(2)", x.height(2), 8);
    }

    // ---- 32 digest

    private static long hash(List<Long> numbers) {
        long h = 563;
        for (long number : numbers) h = 31 * h + number;
        return h;
    }

    private static long digestByCalls(KneelingStones x, String letters) {
        List<Long> numbers = new ArrayList<>();
        for (int cairn = 0; cairn < 7; cairn++) {
            numbers.add((long) x.height(cairn));
            for (int deep = 0; deep < x.height(cairn); deep++) numbers.add((long) x.mark(cairn, deep));
        }
        for (int parish = 0; parish < x.count(0); parish++) {
            for (int what = 0; what <= 5; what++) numbers.add((long) x.about(parish, what));
        }
        for (int custom = 0; custom < x.count(1); custom++) {
            for (int what = 0; what <= 2; what++) numbers.add((long) x.customTold(custom, what));
            for (int cairn = 0; cairn < 7; cairn++) numbers.add((long) x.would(custom, cairn, 2));
        }
        for (int what = 0; what <= 3; what++) numbers.add((long) x.bounds(1, what));
        for (int i = 0; i < letters.length(); i++) numbers.add((long) letters.charAt(i));
        for (int what = 0; what <= 9; what++) numbers.add((long) x.count(what));
        return hash(numbers);
    }

    private static void digestOfNothing() {
        List<Long> numbers = new ArrayList<>();
        for (int i = 0; i < 7; i++) numbers.add(0L);
        numbers.addAll(List.of(-1L, -1L, 0L, 0L));
        numbers.addAll(List.of(0L, 0L, 0L, 0L, 1L, 0L, 0L, 0L, 0L, 0L));
        due.is("digest()", Moors.empty().digest(), hash(numbers));
    }

    private static void digestOfMost() {
        KneelingStones x = Moors.old();
        for (String custom : new String[] {"wmslf9", "wpsnf1", "w6s0"}) Due.custom(x, custom);
        for (int i = 0; i < 6; i++) x.parish(1 + i % 3, 4, 9, i, 10 - i);
        Moors.heap(x, 60, 60, 60, 60, 60, 60, 60);
        x.seed(MOST);
        Due.write(x, "~~~~~~~~wwwwwwww");
        due.is("digest()", x.digest(), digestByCalls(x, "~~~~~~~~wwwwwwww"));
    }

    private static void digestOfACrowd() {
        KneelingStones x = Moors.crowded();
        due.is("digest()", x.digest(), digestByCalls(x, "w1s"));
        for (int week = 0; week < 60; week++) {
            x.weeks(week % 4, 1);
            due.is("digest() in week " + week, x.digest(), digestByCalls(x, "w1s"));
        }
    }

    private static void digestTellsOfLettersOnThePageAlone() {
        KneelingStones x = Moors.empty();
        long was = x.digest();
        Due.write(x, "wwww");
        due.is("with letters", x.digest(), digestByCalls(x, "wwww"));
        x.blank();
        due.is("without", x.digest(), was);
    }

    private static void digestTellsOfMarksInTheirOrder() {
        KneelingStones x = Moors.by("w0s0");
        KneelingStones y = Moors.by("w0s0");
        x.lay(3, 1);
        y.lay(2, 1);
        x.weeks(0, 1);
        y.weeks(0, 1);
        x.lay(2, 1);
        y.lay(3, 1);
        due.holds("other marks, another digest()", x.digest() != y.digest());
        due.is("digest()", x.digest(), digestByCalls(x, ""));
    }

    private static void digestOfPlacesLeft() {
        KneelingStones x = Moors.empty();
        long was = x.digest();
        x.image();
        x.lay(4, 60);
        x.restore();
        due.is("digest() of what was", x.digest(), was);
    }
}
