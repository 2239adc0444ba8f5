/** Promises 24 to 28 and section 3 of the terms: each boundary that a sentence names, from both sides. */
public final class EdgesOfWouldBeTest {
    private static final int NONE = Moors.NONE, UNKNOWN = Moors.UNKNOWN, OUTSIDE = Moors.OUTSIDE;
    private static final int LEAST = Moors.LEAST, MOST = Moors.MOST;
    private static final Due due = new Due();

    public static void main(String[] args) {
        due.runEach(EdgesOfWouldBeTest.class);
        due.end("EdgesOfWouldBeTest");
    }

    /** One walker who always wishes by custom 0 on cairn 4, by custom 1 on 5. */
    private static KneelingStones wishing(int... heap) {
        KneelingStones x = Moors.by("w4s0", "w5s0");
        x.parish(0, 0, 1, 10, 0);
        Moors.heap(x, heap);
        return x;
    }

    /** One walker who always sins by custom 0 at cairn 0. */
    private static KneelingStones sinning(int... heap) {
        KneelingStones x = Moors.by("w4s0");
        x.parish(0, 0, 1, 0, 10);
        Moors.heap(x, heap);
        return x;
    }

    // ---- all stays as it is

    private static void whatIsReadOrWouldBeChangesNothing() {
        KneelingStones x = Moors.crowded();
        x.image();
        x.lay(3, 5);
        long was = x.digest();
        for (int i = -1; i <= 7; i++) readAll(x, i);
        due.is("digest()", x.digest(), was);
        x.weeks(0, 5);
        x.restore();
        long kept = x.digest();
        x.weeks(1, 5);
        for (int i = -1; i <= 7; i++) readAll(x, i);
        x.restore();
        due.is("digest() of the image", x.digest(), kept);
    }

    private static void readAll(KneelingStones x, int i) {
        x.customTold(i, i);
        x.as(i, i);
        x.about(i, i);
        x.height(i);
        x.mark(i, i);
        x.dated(i, i);
        x.order(i);
        x.odds(i, i, 0, 0);
        x.chance(i, i, 0);
        x.sinned(i, i, 1);
        x.bounds(i, 2);
        x.lie(i);
        x.count(i);
        x.fault();
        for (int custom = 0; custom < 4; custom++) {
            x.would(custom, i, 60);
            x.shows(custom, i, 60);
            x.gone(custom, i);
            x.saved(custom, i, 60);
            x.unlike(custom, i, 60);
        }
    }

    private static void whatWouldBeIsWhatComes() {
        for (int seed = 0; seed < 20; seed++) {
            for (int custom = 0; custom < 4; custom++) {
                KneelingStones x = Moors.crowded();
                x.seed(seed);
                int[] want = new int[7];
                for (int cairn = 0; cairn < 7; cairn++) want[cairn] = x.would(custom, cairn, 9);
                x.weeks(custom, 9);
                for (int cairn = 0; cairn < 7; cairn++) due.is("height(" + cairn + ")", x.height(cairn), want[cairn]);
            }
        }
    }

    // ---- 24 shows

    private static void showsIsFirstNotThatWithMostAlone() {
        KneelingStones x = wishing(0, 0, 0, 5, 0, 0, 0);
        due.is("less than another", x.shows(0, 0, 4), 0);
        due.is("as many as another: not alone", x.shows(0, 0, 5), 0);
        due.is("one more", x.shows(0, 0, 6), 6);
        due.is("of 7 behind 7", x.shows(0, 0, 7), 7);
    }

    private static void showsOfLikeOnesOnBothSides() {
        KneelingStones x = wishing(0, 0, 0, 5, 0, 0, 0);
        due.is("a lesser cairn with as many", x.shows(1, 2, 5), 0);
        due.is("a greater cairn with as many", x.shows(1, 6, 5), 0);
        due.is("all empty", wishing().shows(0, 3, 0), 0);
    }

    private static void showsBehind60ButNot61() {
        KneelingStones x = wishing();
        due.is("59", x.shows(0, 0, 59), 59);
        due.is("60", x.shows(0, 0, 60), 60);
        KneelingStones y = Moors.by("w4s0");
        y.parish(0, 0, 1, 9, 0);
        y.seed(Moors.seedOfOneIdleWeek(61, true));
        due.is("behind 61: in none of 60", y.shows(0, 0, 60), NONE);
        y.weeks(0, 1);
        due.is("one week on", y.shows(0, 0, 60), 60);
    }

    private static void showsManyFrom0To60() {
        KneelingStones x = wishing(1, 0, 0, 0, 0, 0, 0);
        due.is("with none laid", x.shows(0, 0, 0), 1);
        due.is("with 59", x.shows(0, 0, 59), 60);
        due.is("with 60, one is spilt", x.shows(0, 0, 60), 60);
        for (int many : new int[] {-1, 61, LEAST, MOST}) due.refuses(x, "with " + many, () -> x.shows(0, 0, many), OUTSIDE);
    }

    private static void showsOnA60thCairn() {
        KneelingStones x = wishing(60, 60, 0, 0, 0, 0, 0);
        due.is("another has 60, too", x.shows(0, 0, 60), 0);
        x.take(1, 1);
        due.is("another has 59", x.shows(0, 0, 60), 60);
        due.is("the one that grows, behind another of 60", x.shows(0, 4, 60), 0);
    }

    private static void showsInNoneOf60() {
        due.is("the one that grows", wishing().shows(0, 4, 1), NONE);
        KneelingStones x = Moors.by("w4s0");
        due.is("nobody walks", x.shows(0, 2, 1), NONE);
        due.is("nobody walks, none laid", x.shows(0, 2, 0), 0);
    }

    private static void showsOnCairns0To6() {
        KneelingStones x = wishing();
        due.is("on 0", x.shows(0, 0, 3), 3);
        due.is("on 6", x.shows(0, 6, 3), 3);
        due.refuses(x, "on 7", () -> x.shows(0, 7, 3), UNKNOWN);
        for (int number : Moors.NO_NUMBERS) due.refuses(x, "on " + number, () -> x.shows(0, number, 3), UNKNOWN);
    }

    private static void showsByCustomsThatAre() {
        KneelingStones x = wishing();
        due.is("by 1", x.shows(1, 4, 3), 3);
        due.refuses(x, "by 2", () -> x.shows(2, 0, 3), UNKNOWN);
        for (int number : Moors.NO_NUMBERS) due.refuses(x, "by " + number, () -> x.shows(number, 0, 3), UNKNOWN);
        KneelingStones y = Moors.crowded();
        due.is("by 3", y.shows(3, 0, 0), 0);
        due.refuses(y, "by 4", () -> y.shows(4, 0, 0), UNKNOWN);
    }

    private static void showsUnknownIsToldAheadOfOutside() {
        KneelingStones x = wishing();
        due.refuses(x, "no custom, 61", () -> x.shows(2, 0, 61), UNKNOWN);
        due.refuses(x, "no cairn, -1", () -> x.shows(0, 7, -1), UNKNOWN);
    }

    // ---- 25 gone

    private static void goneBehind0IfItIsEmptyNow() {
        due.is("empty", sinning().gone(0, 3), 0);
        due.is("empty, though it grows", wishing().gone(0, 4), 0);
    }

    private static void goneBehind60ButNot61() {
        due.is("of 1", sinning(1).gone(0, 0), 1);
        due.is("of 59", sinning(59).gone(0, 0), 59);
        due.is("of 60", sinning(60).gone(0, 0), 60);
        KneelingStones x = Moors.by("w4s0");
        x.parish(0, 0, 1, 0, 9);
        x.lay(0, 60);
        x.seed(Moors.seedOfOneIdleWeek(61, false));
        due.is("behind 61", x.gone(0, 0), NONE);
        x.weeks(0, 1);
        due.is("one week on", x.gone(0, 0), 60);
    }

    private static void goneIsTheFirstTime() {
        // The walker takes from 0 until it is empty; then a gift comes, by the one with fewest.
        KneelingStones x = Moors.by("wls0");
        x.parish(0, 0, 3, 0, 10);
        x.parish(0, 0, 1, 10, 0);
        Moors.heap(x, 9, 60, 60, 60, 60, 60, 60);
        due.is("never behind a week", x.gone(0, 0), NONE);
        x.change(1, 3, 0);
        due.is("without wishes", x.gone(0, 0), 3);
    }

    private static void goneWithinAWeekIsNotGone() {
        KneelingStones x = Moors.by("w0s0");
        x.parish(0, 0, 1, 0, 10);
        x.parish(0, 0, 1, 10, 0);
        x.lay(0, 1);
        due.is("empty within each week", x.gone(0, 0), NONE);
    }

    private static void goneByAFlood() {
        KneelingStones x = Moors.by("w0s0f5");
        Moors.heap(x, 9, 9, 9, 9, 9, 3, 9);
        due.is("3, then 1, then 0", x.gone(0, 5), 10);
        due.is("another one stays", x.gone(0, 4), NONE);
    }

    private static void goneOfCairns0To6() {
        KneelingStones x = sinning(2, 0, 0, 0, 0, 0, 1);
        due.is("of 0", x.gone(0, 0), 2);
        due.is("of 6", x.gone(0, 6), NONE);
        due.refuses(x, "of 7", () -> x.gone(0, 7), UNKNOWN);
        for (int number : Moors.NO_NUMBERS) due.refuses(x, "of " + number, () -> x.gone(0, number), UNKNOWN);
    }

    private static void goneByCustomsThatAre() {
        KneelingStones x = sinning(2);
        due.refuses(x, "by 1", () -> x.gone(1, 0), UNKNOWN);
        for (int number : Moors.NO_NUMBERS) due.refuses(x, "by " + number, () -> x.gone(number, 0), UNKNOWN);
        due.refuses(x, "by none, of none", () -> x.gone(1, 7), UNKNOWN);
    }

    // ---- 26 saved

    private static void savedFor1To60() {
        KneelingStones x = sinning(1);
        due.is("for 1", x.saved(0, 0, 1), 1);
        due.is("for 2", x.saved(0, 0, 2), 2);
        due.is("for 59", x.saved(0, 0, 59), 59);
        due.is("for 60", x.saved(0, 0, 60), NONE);
        for (int weeks : new int[] {0, -1, 61, LEAST, MOST}) {
            due.refuses(x, "for " + weeks, () -> x.saved(0, 0, weeks), OUTSIDE);
        }
    }

    private static void savedBy0IfItIsSaved() {
        KneelingStones x = sinning(9);
        due.is("of 9 for 8", x.saved(0, 0, 8), 0);
        due.is("of 9 for 9: empty behind the last", x.saved(0, 0, 9), 1);
    }

    private static void savedBy60ButNotBy61() {
        KneelingStones x = sinning();
        due.is("60 for 59", x.saved(0, 0, 59), 60);
        due.is("61 for 60", x.saved(0, 0, 60), NONE);
    }

    private static void savedOf60ByNoNumberMore() {
        KneelingStones x = sinning(60);
        due.is("of 60 for 59", x.saved(0, 0, 59), 0);
        due.is("of 60 for 60: more is spilt", x.saved(0, 0, 60), NONE);
    }

    private static void savedFromTheFirstWeekOn() {
        KneelingStones x = wishing();
        due.is("empty now, not behind the first", x.saved(0, 4, 60), 0);
        due.is("one that does not grow", x.saved(0, 3, 1), 1);
        due.is("one that does not grow, for 60", x.saved(0, 3, 60), 1);
    }

    private static void savedByTheFewestOfSeveral() {
        // Nine sins a week at the one with most, of like ones at cairn 1: the last pebble of both lies on 2.
        KneelingStones x = Moors.by("w5sm");
        x.parish(0, 0, 9, 0, 10);
        Moors.heap(x, 0, 12, 0, 0, 0, 0, 0);
        due.is("for 1", x.saved(0, 2, 1), 1);
        due.is("for 2", x.saved(0, 2, 2), 7);
    }

    private static void savedOfCairns0To6() {
        KneelingStones x = sinning(0, 1, 1, 1, 1, 1, 0);
        due.is("of 0", x.saved(0, 0, 1), 2);
        due.is("of 6", x.saved(0, 6, 1), 1);
        due.refuses(x, "of 7", () -> x.saved(0, 7, 1), UNKNOWN);
        for (int number : Moors.NO_NUMBERS) due.refuses(x, "of " + number, () -> x.saved(0, number, 1), UNKNOWN);
    }

    private static void savedByCustomsThatAre() {
        KneelingStones x = sinning();
        due.refuses(x, "by 1", () -> x.saved(1, 0, 1), UNKNOWN);
        for (int number : Moors.NO_NUMBERS) due.refuses(x, "by " + number, () -> x.saved(number, 0, 1), UNKNOWN);
    }

    private static void savedUnknownIsToldAheadOfOutside() {
        KneelingStones x = sinning();
        due.refuses(x, "no custom, 0", () -> x.saved(1, 0, 0), UNKNOWN);
        due.refuses(x, "no cairn, 61", () -> x.saved(0, 7, 61), UNKNOWN);
    }

    // ---- 27 unlike

    private static void unlikeBehind0To60() {
        KneelingStones x = wishing(3, 1, 4, 1, 0, 0, 9);
        due.is("behind 0", x.unlike(0, 1, 0), 0);
        due.is("behind 1", x.unlike(0, 1, 1), 2);
        due.is("behind 59", x.unlike(0, 1, 59), 118);
        due.is("behind 60", x.unlike(0, 1, 60), 120);
        for (int weeks : new int[] {-1, 61, LEAST, MOST}) {
            due.refuses(x, "behind " + weeks, () -> x.unlike(0, 1, weeks), OUTSIDE);
        }
    }

    private static void unlikeItselfIs0() {
        KneelingStones x = Moors.crowded();
        for (int custom = 0; custom < 4; custom++) due.is("custom " + custom, x.unlike(custom, custom, 60), 0);
    }

    private static void unlikeCountsSizesFromBothSides() {
        KneelingStones x = Moors.by("w4s0", "w4s6");
        x.parish(0, 0, 2, 0, 10);
        Moors.heap(x, 5, 0, 0, 0, 0, 0, 5);
        due.is("0 has less by the first", x.unlike(0, 1, 2), 8);
        due.is("6 has less by the first", x.unlike(1, 0, 2), 8);
        due.is("no more than there are", x.unlike(0, 1, 60), 10);
    }

    private static void unlikeByCustomsThatAre() {
        KneelingStones x = wishing();
        due.refuses(x, "2 and 0", () -> x.unlike(2, 0, 1), UNKNOWN);
        due.refuses(x, "0 and 2", () -> x.unlike(0, 2, 1), UNKNOWN);
        due.refuses(x, "2 and 2", () -> x.unlike(2, 2, 1), UNKNOWN);
        for (int number : Moors.NO_NUMBERS) {
            due.refuses(x, number + " and 0", () -> x.unlike(number, 0, 1), UNKNOWN);
            due.refuses(x, "0 and " + number, () -> x.unlike(0, number, 1), UNKNOWN);
        }
        KneelingStones y = Moors.crowded();
        due.is("3 and 3", y.unlike(3, 3, 1), 0);
        due.refuses(y, "3 and 4", () -> y.unlike(3, 4, 1), UNKNOWN);
        due.refuses(y, "4 and 3", () -> y.unlike(4, 3, 1), UNKNOWN);
    }

    private static void unlikeUnknownIsToldAheadOfOutside() {
        KneelingStones x = wishing();
        due.refuses(x, "2 and 0, 61", () -> x.unlike(2, 0, 61), UNKNOWN);
        due.refuses(x, "0 and 2, -1", () -> x.unlike(0, 2, -1), UNKNOWN);
    }

    // ---- 28 lie

    private static void lies(int cairn, int want, int... heap) {
        KneelingStones x = Moors.empty();
        Moors.heap(x, heap);
        long was = x.digest();
        due.is("lie(" + cairn + ")", x.lie(cairn), want);
        due.is("digest() behind lie()", x.digest(), was);
    }

    private static void aLieOf0IfItHasMoreAlready() {
        lies(0, 0, 1, 0, 0, 0, 0, 0, 0);
        lies(6, 0, 59, 59, 59, 59, 59, 59, 60);
    }

    private static void aLieOf1IfAnotherHasAsMany() {
        lies(0, 1, 1, 1, 0, 0, 0, 0, 0);
        lies(3, 1, 0, 0, 0, 5, 0, 0, 5);
        lies(3, 1, 5, 0, 0, 5, 0, 0, 0);
        lies(3, 1, 0, 0, 0, 5, 0, 6, 0);
    }

    private static void aLieOf2IfAnotherHasTwoMore() {
        lies(3, 2, 0, 0, 0, 5, 0, 7, 0);
        lies(3, 2, 0, 0, 0, 5, 0, 8, 0);
        lies(3, 3, 0, 0, 0, 5, 0, 9, 0);
        lies(3, 2, 0, 0, 0, 5, 0, 6, 6);
        lies(3, 2, 6, 6, 6, 5, 6, 6, 6);
    }

    private static void aLieByNoNumberIfThereAreTooFew() {
        for (int cairn = 0; cairn < 7; cairn++) lies(cairn, NONE);
        lies(0, 1, 0, 1, 0, 0, 0, 0, 0);
        lies(6, 2, 0, 1, 1, 0, 0, 0, 0);
    }

    private static void aLieMayMoveAllOfTheOthers() {
        // Of six with one each: one moved leaves others as high, two make it the highest.
        lies(0, 2, 0, 1, 1, 1, 1, 1, 1);
        lies(0, 1, 0, 1, 0, 0, 0, 0, 0);
    }

    private static void aLieMayComeAbove60() {
        lies(2, 1, 60, 60, 60, 60, 60, 60, 60);
        lies(2, 1, 60, 0, 60, 0, 0, 0, 0);
        lies(2, 2, 60, 60, 59, 60, 60, 60, 60);
    }

    private static void aLieFromNoneAmongFullOnes() {
        lies(2, 53, 60, 60, 0, 60, 60, 60, 60);
        lies(2, 31, 60, 0, 0, 0, 0, 0, 0);
        lies(2, 30, 59, 0, 0, 0, 0, 0, 0);
    }

    private static void aLieOfCairns0To6() {
        KneelingStones x = sinning(4, 0, 0, 0, 0, 0, 4);
        due.is("of 0", x.lie(0), 1);
        due.is("of 6", x.lie(6), 1);
        due.refuses(x, "of 7", () -> x.lie(7), UNKNOWN);
        for (int number : Moors.NO_NUMBERS) due.refuses(x, "of " + number, () -> x.lie(number), UNKNOWN);
    }
}
