import java.lang.reflect.Field;
import java.lang.reflect.Modifier;

/** "What it is", "The public face" and section 1 of the terms: each boundary that a sentence names, from both sides. */
public final class EdgesOfTermsTest {
    private static final int NONE = Moors.NONE, UNKNOWN = Moors.UNKNOWN, OUTSIDE = Moors.OUTSIDE, FULL = Moors.FULL;
    private static final Due due = new Due();

    public static void main(String[] args) {
        due.runEach(EdgesOfTermsTest.class);
        due.end("EdgesOfTermsTest");
    }

    // ---- what it is, the public face

    private static void theConstants() throws ReflectiveOperationException {
        String[] names = {"NONE", "UNKNOWN", "OUTSIDE", "STATE", "FULL"};
        int[] values = {-1, -101, -102, -103, -104};
        for (int i = 0; i < names.length; i++) {
            Field f = KneelingStones.class.getField(names[i]);
            due.is(names[i], f.getInt(null), values[i]);
            due.holds(names[i] + " is an int", f.getType() == int.class);
            due.is(names[i] + "'s modifiers", f.getModifiers(), Modifier.PUBLIC | Modifier.STATIC | Modifier.FINAL);
        }
    }

    private static void the512thCallAnswersAsTheFirst() {
        KneelingStones x = Moors.by("w4s0");
        x.parish(1, 4, 9, 10, 0);
        int calls = 4;
        while (calls < 510) {
            due.is("call " + calls, x.would(0, 4, 60), 60);
            calls++;
        }
        due.is("call 511", x.weeks(0, 1), 36);
        due.is("call 512", x.height(4), 36);
    }

    private static void ofThe512DearestCallsTheLastAnswers() {
        KneelingStones x = Moors.by("w0sl");
        for (int i = 0; i < 6; i++) x.parish(3, i, 9, 0, 10);
        int first = x.saved(0, 6, 60);
        for (int i = 0; i < 60; i++) due.is("saved", x.saved(0, 6, 60), first);
        for (int i = 0; i < 441; i++) due.is("shows", x.shows(0, 6, 60), 1);
    }

    private static void the512thCallRefusesAsTheFirst() {
        KneelingStones x = Moors.empty();
        for (int i = 0; i < 506; i++) due.is("lay", x.lay(i % 7, 1), 1 + i / 7 > 60 ? 60 : 1 + i / 7);
        due.is("spilt by 506", x.count(8), 506 - 420);
        due.is("call 508", x.lay(7, 1), UNKNOWN);
        due.is("call 509", x.lay(6, 0), OUTSIDE);
        due.is("call 510", x.restore(), Moors.STATE);
        due.is("call 511", x.lay(6, 1), 60);
        due.is("call 512", x.count(8), 507 - 420);
    }

    // ---- cairns

    private static void theSeventhCairnMayBeTheEighthMayNot() {
        KneelingStones x = Moors.by("w0s0");
        for (int cairn = 0; cairn < 7; cairn++) due.is("lay on " + cairn, x.lay(cairn, cairn + 1), cairn + 1);
        due.refuses(x, "lay on 7", () -> x.lay(7, 1), UNKNOWN);
        due.refuses(x, "lay on -1", () -> x.lay(-1, 1), UNKNOWN);
        due.is("pebbles of seven", x.count(2), 28);
    }

    private static void aCairnHasNoneAtFirst() {
        KneelingStones x = Moors.empty();
        for (int cairn = 0; cairn < 7; cairn++) due.is("height(" + cairn + ")", x.height(cairn), 0);
        due.is("pebbles", x.count(2), 0);
    }

    private static void the60thPebbleLiesThe61stIsSpilt() {
        KneelingStones x = Moors.empty();
        x.lay(2, 59);
        due.is("the 60th", x.lay(2, 1), 60);
        due.is("spilt by 60", x.count(8), 0);
        due.is("the 61st", x.lay(2, 1), 60);
        due.is("spilt by 61", x.count(8), 1);
    }

    private static void aSpiltPebbleMovesNoMark() {
        KneelingStones x = Moors.by("w0s0");
        x.lay(2, 60);
        x.weeks(0, 1);
        x.lay(2, 60);
        due.is("spilt", x.count(8), 60);
        due.is("dated(2, 0)", x.dated(2, 0), 60);
        due.is("dated(2, 1)", x.dated(2, 1), 0);
        x.take(2, 1);
        x.lay(2, 2);
        due.is("the uppermost", x.mark(2, 0), 1);
        due.is("the one below", x.mark(2, 1), 0);
        due.is("the lowest", x.mark(2, 59), 0);
    }

    private static void aWishOn59LiesOn60IsSpilt() {
        KneelingStones x = Moors.by("w2s0");
        x.parish(0, 0, 1, 10, 0);
        x.lay(2, 59);
        due.is("on 59", x.weeks(0, 1), 60);
        due.is("spilt", x.count(8), 0);
        due.is("on 60", x.weeks(0, 1), 60);
        due.is("spilt", x.count(8), 1);
        due.is("laid", x.count(6), 61);
        due.is("LAST of a spilt wish", x.count(5), 2);
    }

    private static void aGiftOf4On56LiesOn57IsSpiltByOne() {
        KneelingStones x = Moors.by("w2s0");
        x.parish(1, 4, 1, 10, 0);
        x.lay(2, 56);
        due.is("on 56", x.weeks(0, 1), 60);
        due.is("spilt", x.count(8), 0);
        x.take(2, 3);
        due.is("on 57", x.weeks(0, 1), 60);
        due.is("spilt", x.count(8), 1);
        due.is("laid", x.count(6), 64);
        due.is("dated(2, 2)", x.dated(2, 2), 3);
    }

    private static void aGiftDoesNotGoOnToAnotherCairn() {
        KneelingStones x = Moors.by("wls0");
        x.parish(1, 4, 1, 10, 0);
        Moors.heap(x, 5, 5, 3, 4, 5, 5, 5);
        x.weeks(0, 1);
        due.is("the one with fewest has all four", x.height(2), 7);
        due.is("the next one has none", x.height(3), 4);
    }

    private static void aMovedOneOn59LiesOn60IsSpilt() {
        KneelingStones x = Moors.by("w0s1");
        x.parish(2, 4, 1, 0, 10);
        Moors.heap(x, 0, 2, 0, 0, 59, 0, 0);
        due.is("on 59", x.weeks(0, 1), 61);
        due.is("height(4)", x.height(4), 60);
        due.is("spilt", x.count(8), 0);
        due.is("on 60", x.weeks(0, 1), 60);
        due.is("height(1)", x.height(1), 0);
        due.is("spilt", x.count(8), 1);
        due.is("taken", x.count(7), 0);
        due.is("laid", x.count(6), 61);
    }

    private static void boysSpillOnASixtieth() {
        KneelingStones x = Moors.by("w0s1");
        x.parish(3, 6, 1, 0, 10);
        Moors.heap(x, 0, 60, 0, 0, 0, 0, 60);
        x.weeks(0, 1);
        due.is("from that with most", x.height(1), 59);
        due.is("on 60", x.height(6), 60);
        due.is("spilt", x.count(8), 1);
        x.weeks(0, 1);
        due.is("from 6 on 6", x.height(6), 60);
        due.is("spilt", x.count(8), 1);
    }

    private static void pebblesLieOneOnAnother() {
        KneelingStones x = Moors.by("w0s0");
        for (int week = 0; week < 4; week++) {
            x.lay(5, 1);
            x.weeks(0, 1);
        }
        for (int deep = 0; deep < 4; deep++) due.is("mark so deep " + deep, x.mark(5, deep), 3 - deep);
        x.take(5, 1);
        due.is("behind one taken", x.mark(5, 0), 2);
        x.take(5, 2);
        due.is("the first one is left", x.mark(5, 0), 0);
    }

    private static void aMovedOneBearsItsFirstWeek() {
        for (int kind = 2; kind <= 3; kind++) {
            KneelingStones x = Moors.by("w0s1");
            x.parish(kind, 4, 1, 0, 10);
            x.lay(1, 1);
            x.weeks(0, 3);
            due.is("moved by kind " + kind, x.height(4), 1);
            due.is("its mark", x.mark(4, 0), 0);
            due.is("dated(4, 0)", x.dated(4, 0), 1);
            due.is("dated(4, 1)", x.dated(4, 1), 0);
        }
    }

    private static void anOldPlaceBearsNoOldMark() {
        KneelingStones x = Moors.by("w0s0");
        x.lay(3, 5);
        x.weeks(0, 1);
        x.take(3, 5);
        x.lay(3, 2);
        due.is("mark(3, 1)", x.mark(3, 1), 1);
        due.is("mark(3, 2)", x.mark(3, 2), NONE);
        due.is("dated(3, 0)", x.dated(3, 0), 0);
    }

    private static void weekSeedAndLastAtFirst() {
        KneelingStones x = Moors.empty();
        due.is("WEEK", x.count(3), 0);
        due.is("THE SEED", x.count(4), 1);
        due.is("LAST", x.count(5), 0);
        x.lay(0, 1);
        due.is("a first mark", x.mark(0, 0), 0);
    }

    // ---- parishes

    private static void theSixthParishMayBeTheSeventhMayNot() {
        KneelingStones x = Moors.empty();
        for (int i = 0; i < 6; i++) due.is("parish", x.parish(0, 0, 1, 0, 0), i);
        due.refuses(x, "a seventh parish", () -> x.parish(0, 0, 1, 0, 0), FULL);
        due.is("about(5, 0)", x.about(5, 0), 0);
        due.is("about(6, 0)", x.about(6, 0), UNKNOWN);
    }

    private static void kinds0To3() {
        int[] n = {0, 2, 0, 0};
        for (int kind = 0; kind <= 3; kind++) {
            KneelingStones x = Moors.empty();
            due.is("kind " + kind, x.parish(kind, n[kind], 1, 0, 0), 0);
            due.is("its kind", x.about(0, 0), kind);
        }
        KneelingStones x = Moors.empty();
        due.refuses(x, "kind -1", () -> x.parish(-1, 0, 1, 0, 0), OUTSIDE);
        due.refuses(x, "kind 4", () -> x.parish(4, 0, 1, 0, 0), OUTSIDE);
        due.refuses(x, "kind 4 of 2", () -> x.parish(4, 2, 1, 0, 0), OUTSIDE);
    }

    private static void numberedFrom(int kind, int least, int most) {
        for (int n = -3; n <= 9; n++) {
            KneelingStones x = Moors.empty();
            boolean may = n >= least && n <= most;
            due.is("kind " + kind + " with n " + n, x.parish(kind, n, 1, 0, 0), may ? 0 : OUTSIDE);
            due.is("n of it", x.about(0, 1), may ? n : UNKNOWN);
        }
        KneelingStones x = Moors.empty();
        due.refuses(x, "the least n", () -> x.parish(kind, Moors.LEAST, 1, 0, 0), OUTSIDE);
        due.refuses(x, "the most n", () -> x.parish(kind, Moors.MOST, 1, 0, 0), OUTSIDE);
    }

    private static void nOfAParishIs0() {
        numberedFrom(0, 0, 0);
    }

    private static void nOfAPiousIs2To4() {
        numberedFrom(1, 2, 4);
    }

    private static void nOfASlyIsACairn() {
        numberedFrom(2, 0, 6);
    }

    private static void nOfBoysIsACairn() {
        numberedFrom(3, 0, 6);
    }

    private static void walkers1To9() {
        for (int walkers = -1; walkers <= 11; walkers++) {
            boolean may = walkers >= 1 && walkers <= 9;
            due.is("walkers " + walkers, Moors.empty().parish(0, 0, walkers, 0, 0), may ? 0 : OUTSIDE);
        }
        KneelingStones x = Moors.by("w4s4");
        x.parish(0, 0, 9, 10, 0);
        due.is("nine walk", x.weeks(0, 1), 9);
        x.change(0, 2, 1);
        due.is("one walks", x.weeks(0, 1), 10);
    }

    private static void wish0To10() {
        for (int wish = -2; wish <= 12; wish++) {
            boolean may = wish >= 0 && wish <= 10;
            due.is("wish " + wish, Moors.empty().parish(0, 0, 1, wish, 0), may ? 0 : OUTSIDE);
        }
    }

    private static void sin0To10() {
        for (int sin = -2; sin <= 12; sin++) {
            boolean may = sin >= 0 && sin <= 10;
            due.is("sin " + sin, Moors.empty().parish(0, 0, 1, 0, sin), may ? 0 : OUTSIDE);
        }
    }

    private static void giftOfAPiousIsNOfOthers1() {
        int[][] rows = {{0, 0, 1}, {1, 2, 2}, {1, 3, 3}, {1, 4, 4}, {2, 0, 1}, {2, 6, 1}, {3, 0, 1}, {3, 4, 1}};
        for (int[] row : rows) {
            KneelingStones x = Moors.by("w5s0");
            x.parish(row[0], row[1], 1, 10, 0);
            due.is("GIFT of kind " + row[0] + " with " + row[1], x.about(0, 5), row[2]);
            due.is("laid by it", x.weeks(0, 1), row[2]);
        }
    }

    // ---- customs

    private static void theFourthCustomMayBeTheFifthMayNot() {
        KneelingStones x = Moors.empty();
        for (int i = 0; i < 4; i++) due.is("custom", Due.custom(x, "w0s0"), i);
        x.letters(Due.codes("w0s0"));
        due.refuses(x, "a fifth custom", x::custom, FULL);
        due.is("customTold(3, 0)", x.customTold(3, 0), 0);
        due.is("customTold(4, 0)", x.customTold(4, 0), UNKNOWN);
    }

    private static void every1To9() {
        due.is("f0", Due.custom(Moors.empty(), "w0s0f0"), Moors.STATE);
        for (int every = 1; every <= 9; every++) {
            KneelingStones x = Moors.by("w0s0f" + every);
            due.is("EVERY " + every, x.customTold(0, 2), every);
        }
        due.is("f:", Due.custom(Moors.empty(), "w0s0f:"), Moors.STATE);
        due.is("f10", Due.custom(Moors.empty(), "w0s0f10"), Moors.STATE);
    }

    private static void laidBy(String rule, int parish, int before, int want, int... heap) {
        KneelingStones x = Moors.by("w" + before + "s0", "w" + rule + "s0");
        for (int i = 0; i < 6; i++) x.parish(0, 0, 1, i == parish ? 10 : 0, 0);
        x.weeks(0, 1);
        x.take(before, 1);
        Moors.heap(x, heap);
        int had = x.height(want);
        x.weeks(1, 1);
        due.is("wish by " + rule + " behind " + before + ": cairn " + want, x.height(want), had + 1);
        due.is("LAST", x.count(5), want);
    }

    private static void digits0To6AreCairns() {
        for (int cairn = 0; cairn <= 6; cairn++) laidBy("" + cairn, 3, 2, cairn, 1, 2, 3, 4, 3, 2, 1);
        due.is("w7", Due.custom(Moors.empty(), "w7s0"), Moors.STATE);
        due.is("s7", Due.custom(Moors.empty(), "w0s7"), Moors.STATE);
        due.is("w/", Due.custom(Moors.empty(), "w/s0"), Moors.STATE);
        due.is("s/", Due.custom(Moors.empty(), "w0s/"), Moors.STATE);
    }

    private static void byMOfLikeOnesTheLeast() {
        laidBy("m", 3, 2, 0);
        laidBy("m", 3, 2, 0, 9, 9, 9, 9, 9, 9, 9);
        laidBy("m", 3, 2, 5, 8, 8, 8, 8, 8, 9, 9);
        laidBy("m", 3, 2, 6, 8, 8, 8, 8, 8, 8, 9);
        laidBy("m", 3, 2, 0, 9, 8, 8, 8, 8, 8, 9);
    }

    private static void byLOfLikeOnesTheLeast() {
        laidBy("l", 3, 2, 0);
        laidBy("l", 3, 2, 0, 9, 9, 9, 9, 9, 9, 9);
        laidBy("l", 3, 2, 5, 9, 9, 9, 9, 9, 8, 8);
        laidBy("l", 3, 2, 6, 9, 9, 9, 9, 9, 9, 8);
        laidBy("l", 3, 2, 0, 8, 9, 9, 9, 9, 9, 8);
        laidBy("l", 3, 2, 1, 1, 0, 0, 1, 1, 1, 1);
    }

    private static void byPTheFirstAndTheLastParish() {
        for (int parish = 0; parish <= 5; parish++) laidBy("p", parish, 6, parish);
    }

    private static void byPItIsTheNumberAndNotN() {
        KneelingStones x = Moors.by("wpsp");
        x.parish(1, 4, 1, 10, 0);
        x.parish(2, 6, 1, 10, 0);
        x.weeks(0, 1);
        due.is("parish 0", x.height(0), 4);
        due.is("parish 1", x.height(1), 1);
        x.change(1, 3, 0);
        x.change(1, 4, 10);
        x.weeks(0, 1);
        due.is("taken from its number", x.height(1), 0);
        due.is("laid on n", x.height(6), 1);
    }

    private static void byNBehind6Comes0() {
        for (int last = 0; last <= 6; last++) laidBy("n", 3, last, last == 6 ? 0 : last + 1);
    }

    private static void byNOfAFirstLast() {
        KneelingStones x = Moors.by("wns0");
        x.parish(0, 0, 8, 10, 0);
        x.weeks(0, 1);
        int[] want = {1, 2, 1, 1, 1, 1, 1};
        for (int cairn = 0; cairn < 7; cairn++) due.is("eight round the ring: " + cairn, x.height(cairn), want[cairn]);
        due.is("LAST", x.count(5), 1);
    }

    private static void sinsByNGoRoundTheRing() {
        KneelingStones x = Moors.by("w0sn");
        x.parish(0, 0, 9, 0, 10);
        Moors.heap(x, 2, 2, 2, 2, 2, 2, 2);
        x.weeks(0, 1);
        int[] want = {1, 0, 0, 1, 1, 1, 1};
        for (int cairn = 0; cairn < 7; cairn++) due.is("nine round the ring: " + cairn, x.height(cairn), want[cairn]);
    }

    // ---- a week

    private static void weekIsOneMoreAtItsBeginning() {
        KneelingStones x = Moors.by("w4s4");
        x.parish(0, 0, 1, 10, 0);
        x.weeks(0, 1);
        due.is("WEEK", x.count(3), 1);
        due.is("the mark of a wish", x.mark(4, 0), 1);
    }

    private static void itWishesIfADrawIsBelowWish() {
        for (int draw = 0; draw <= 9; draw++) {
            int seed = Moors.seedBefore(draw);
            for (int wish = 0; wish <= 10; wish++) {
                KneelingStones x = Moors.by("w2s5");
                x.parish(0, 0, 1, wish, 0);
                x.seed(seed);
                due.is("a draw of " + draw + " by wish " + wish, x.weeks(0, 1), draw < wish ? 1 : 0);
            }
        }
    }

    private static void elseItSinsIfADrawIsBelowSin() {
        for (int draw = 0; draw <= 9; draw++) {
            int seed = Moors.seedBefore(9, draw);
            for (int sin = 0; sin <= 10; sin++) {
                KneelingStones x = Moors.by("w2s5");
                x.parish(0, 0, 1, 9, sin);
                x.lay(5, 1);
                x.seed(seed);
                due.is("a draw of " + draw + " by sin " + sin, x.weeks(0, 1), draw < sin ? 0 : 1);
            }
        }
    }

    private static void whoWishesDrawsOnceAndDoesNotSin() {
        KneelingStones x = Moors.by("w2s5");
        x.parish(0, 0, 1, 10, 10);
        x.lay(5, 1);
        x.seed(7);
        x.weeks(0, 1);
        due.is("THE SEED behind one draw", x.count(4), Moors.nextSeed(7));
        due.is("nothing is taken", x.height(5), 1);
    }

    private static void whoDoesNotWishDrawsTwice() {
        for (int sin = 0; sin <= 10; sin += 10) {
            KneelingStones x = Moors.by("w2s5");
            x.parish(0, 0, 1, 0, sin);
            x.seed(7);
            x.weeks(0, 1);
            due.is("THE SEED behind two draws", x.count(4), Moors.nextSeed(Moors.nextSeed(7)));
        }
    }

    private static void eachParishInOrder() {
        KneelingStones x = Moors.by("wnsn");
        x.parish(1, 4, 1, 10, 0);
        x.parish(1, 2, 2, 10, 0);
        x.parish(0, 0, 1, 10, 0);
        x.weeks(0, 1);
        int[] want = {0, 4, 2, 2, 1, 0, 0};
        for (int cairn = 0; cairn < 7; cairn++) due.is("height(" + cairn + ")", x.height(cairn), want[cairn]);
    }

    private static void aSinTakesTheLastOneButNoneOfNone() {
        KneelingStones x = Moors.by("w0s3");
        x.parish(0, 0, 1, 0, 10);
        x.lay(3, 1);
        due.is("the last one", x.weeks(0, 1), 0);
        due.is("taken", x.count(7), 1);
        due.is("none of none", x.weeks(0, 1), 0);
        due.is("taken", x.count(7), 1);
        due.is("LAST whatever comes of it", x.count(5), 3);
    }

    private static void aSlyMovesTheLastOneButNoneOfNone() {
        KneelingStones x = Moors.by("w0s3");
        x.parish(2, 6, 1, 0, 10);
        x.lay(3, 1);
        x.weeks(0, 1);
        due.is("the last one", x.height(6), 1);
        due.is("LAST is not n", x.count(5), 3);
        x.weeks(0, 1);
        due.is("none of none", x.height(6), 1);
        due.is("pebbles", x.count(2), 1);
        due.is("LAST whatever comes of it", x.count(5), 3);
    }

    private static void lastOfAnEmptyCairnBehindAnother() {
        KneelingStones x = Moors.by("w5s0", "w0s2");
        x.parish(2, 6, 1, 10, 10);
        x.weeks(0, 1);
        due.is("LAST of a wish", x.count(5), 5);
        x.change(0, 3, 0);
        x.weeks(1, 1);
        due.is("LAST of a sin that finds none", x.count(5), 2);
    }

    private static void lastStaysIfNobodyWishesOrSins() {
        KneelingStones x = Moors.by("w5s0");
        x.parish(0, 0, 9, 10, 0);
        x.weeks(0, 1);
        x.change(0, 3, 0);
        x.weeks(0, 9);
        due.is("LAST", x.count(5), 5);
    }

    private static void boysOfAllEmptyHave0AsLast() {
        KneelingStones x = Moors.by("w5s4");
        x.parish(3, 6, 1, 10, 10);
        x.weeks(0, 1);
        x.take(5, 1);
        x.change(0, 3, 0);
        x.weeks(0, 1);
        due.is("LAST", x.count(5), 0);
        due.is("pebbles", x.count(2), 0);
        x.lay(3, 1);
        x.weeks(0, 1);
        due.is("LAST is that with most", x.count(5), 3);
        due.is("it lies on n", x.height(6), 1);
    }

    private static void boysOfLikeOnesTakeFromTheLeast() {
        KneelingStones x = Moors.by("w5s4");
        x.parish(3, 6, 1, 0, 10);
        Moors.heap(x, 0, 0, 4, 4, 3, 0, 0);
        x.weeks(0, 1);
        due.is("height(2)", x.height(2), 3);
        due.is("height(3)", x.height(3), 4);
        x.weeks(0, 1);
        due.is("then from the other", x.height(3), 3);
    }

    private static void boysWishByTheRule() {
        KneelingStones x = Moors.by("w5s4");
        x.parish(3, 6, 1, 10, 10);
        x.lay(2, 9);
        x.weeks(0, 1);
        due.is("height(5)", x.height(5), 1);
        due.is("LAST", x.count(5), 5);
    }

    // ---- floods

    private static void aFloodIfWeekByEveryHasNoRest() {
        int[] left = {59, 29, 14, 7, 3, 1, 0, 0};
        for (int every = 1; every <= 9; every++) {
            KneelingStones x = Moors.by("w0s0f" + every);
            Moors.heap(x, 60, 60, 60, 59, 60, 60, 60);
            for (int week = 1; week <= 20; week++) {
                x.weeks(0, 1);
                due.is("EVERY " + every + ", week " + week, x.height(3), left[Math.min(7, week / every)]);
            }
            due.is("only that with fewest", x.count(2), 360 + left[Math.min(7, 20 / every)]);
        }
    }

    private static void noFloodsWithoutF() {
        KneelingStones x = Moors.by("w0s0");
        Moors.heap(x, 60, 60, 60, 59, 60, 60, 60);
        due.is("behind 60 weeks", x.weeks(0, 60), 419);
    }

    private static void aFloodLeavesHalfRoundedDown() {
        for (int many = 0; many < 60; many++) {
            KneelingStones x = Moors.by("w0s0f1");
            Moors.heap(x, 60, 60, 60, 60, 60, many, 60);
            x.weeks(0, 1);
            due.is("of " + many, x.height(5), many / 2);
            due.is("taken of " + many, x.count(7), many - many / 2);
            due.is("LAST", x.count(5), 0);
        }
    }

    private static void aFloodOf60() {
        KneelingStones x = Moors.by("w0s0f1");
        Moors.heap(x, 60, 60, 60, 60, 60, 60, 60);
        due.is("pebbles", x.weeks(0, 1), 390);
        due.is("of like ones the least", x.height(0), 30);
    }

    private static void aFloodOfAnEmptyCairnTakesNone() {
        KneelingStones x = Moors.by("w0s0f1");
        Moors.heap(x, 60, 60, 60, 60, 60, 60, 0);
        due.is("pebbles", x.weeks(0, 60), 360);
        due.is("taken", x.count(7), 0);
    }

    private static void aFloodTakesFromAboveInTheEnd() {
        KneelingStones x = Moors.by("w0s0", "w2s0f2");
        x.parish(0, 0, 1, 0, 0);
        Moors.heap(x, 9, 9, 1, 9, 9, 9, 9);
        x.weeks(0, 1);
        x.lay(2, 1);
        x.change(0, 3, 10);
        x.weeks(1, 1);
        due.is("the wish came ahead of the flood", x.height(2), 1);
        due.is("the first one is left", x.mark(2, 0), 0);
        due.is("washed off ones are taken", x.count(7), 2);
    }

    // ---- draws

    private static void drawsFollowTheSeed() {
        long[] seeds = {0, 1, 2, 65535, 65536, 1103515244, 1103515245, 2147418112, 2147483646, 2147483647};
        for (long seed : seeds) {
            KneelingStones x = Moors.by("w0s0");
            x.parish(0, 0, 1, 10, 0);
            x.seed((int) seed);
            long want = seed;
            for (int week = 0; week < 50; week++) {
                want = Moors.nextSeed(want);
                x.weeks(0, 1);
                due.is("THE SEED from " + seed + ", week " + week, x.count(4), want);
            }
        }
    }

    private static void theSeedWrapsAt2ToThe31() {
        KneelingStones x = Moors.by("w0s0");
        x.parish(0, 0, 1, 10, 0);
        // 1103515245 times 2147483647 and 12345, less 2 to the 31 as often as it goes.
        x.seed(2147483647);
        x.weeks(0, 1);
        due.is("behind the most", x.count(4), 1043980748);
        x.seed(0);
        x.weeks(0, 1);
        due.is("behind 0", x.count(4), 12345);
        x.seed(1);
        x.weeks(0, 1);
        due.is("behind 1", x.count(4), 1103527590);
        x.seed(2);
        x.weeks(0, 1);
        due.is("behind 2, less 2 to the 31 once", x.count(4), 59559187);
    }

    private static void aDrawIs0To9() {
        boolean[] seen = new boolean[10];
        for (int seed = 0; seed < 200; seed++) {
            KneelingStones x = Moors.by("w0s0");
            x.parish(0, 0, 1, 10, 0);
            x.seed(seed);
            due.is("by 10 it wishes always", x.weeks(0, 1), 1);
            seen[Moors.drawOf(x.count(4))] = true;
        }
        for (int draw = 0; draw < 10; draw++) due.holds("a draw of " + draw + " was tried", seen[draw]);
    }
}
