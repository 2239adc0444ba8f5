/** Promises 7 to 19: each boundary that a sentence names, from both sides. */
public final class EdgesOfCairnsTest {
    private static final int NONE = Moors.NONE, UNKNOWN = Moors.UNKNOWN, OUTSIDE = Moors.OUTSIDE;
    private static final int STATE = Moors.STATE, FULL = Moors.FULL;
    private static final int LEAST = Moors.LEAST, MOST = Moors.MOST;
    private static final Due due = new Due();

    public static void main(String[] args) {
        due.runEach(EdgesOfCairnsTest.class);
        due.end("EdgesOfCairnsTest");
    }

    // ---- 7 parish

    private static void parishesAreNumbered0To5ThenFull() {
        KneelingStones x = Moors.empty();
        for (int i = 0; i < 6; i++) due.is("parish", x.parish(i % 4, i % 4 == 0 ? 0 : 3, 9, 10, 10), i);
        for (int kind = 0; kind < 4; kind++) {
            int of = kind;
            due.refuses(x, "one more of kind " + kind, () -> x.parish(of, of == 0 ? 0 : 3, 1, 0, 0), FULL);
        }
    }

    private static void eachNumberOfAParishFromBothSides() {
        int[] inside = {1, 3, 5, 5, 5};
        int[][] firstOut = {{-1, 4}, {1, 5}, {0, 10}, {-1, 11}, {-1, 11}};
        int[][] lastIn = {{1, 1}, {2, 4}, {1, 9}, {0, 10}, {0, 10}};
        for (int at = 0; at < 5; at++) {
            for (int side = 0; side < 2; side++) {
                KneelingStones x = Moors.empty();
                int[] out = inside.clone();
                out[at] = firstOut[at][side];
                due.refuses(x, "argument " + at + " of " + out[at], () -> madeOf(x, out), OUTSIDE);
                out[at] = side == 0 ? LEAST : MOST;
                due.refuses(x, "argument " + at + " of " + out[at], () -> madeOf(x, out), OUTSIDE);
                int[] in = inside.clone();
                in[at] = lastIn[at][side];
                due.is("argument " + at + " of " + in[at], madeOf(x, in), 0);
                for (int what = 0; what < 5; what++) due.is("about it " + what, x.about(0, what), in[what]);
            }
        }
    }

    private static int madeOf(KneelingStones x, int[] p) {
        return x.parish(p[0], p[1], p[2], p[3], p[4]);
    }

    private static void parishOutsideIsToldAheadOfFull() {
        KneelingStones x = Moors.crowded();
        int[][] out = {{4, 0, 1, 0, 0}, {0, 1, 1, 0, 0}, {0, 0, 0, 0, 0}, {0, 0, 10, 0, 0}, {0, 0, 1, 11, 0}, {0, 0, 1, 0, -1}};
        for (int[] p : out) due.refuses(x, "outside and full", () -> madeOf(x, p), OUTSIDE);
        due.refuses(x, "full", () -> x.parish(0, 0, 1, 0, 0), FULL);
    }

    // ---- 8 as

    private static KneelingStones ofEachKind() {
        KneelingStones x = Moors.empty();
        x.parish(3, 1, 1, 0, 0);
        x.parish(2, 1, 1, 0, 0);
        x.parish(1, 2, 1, 0, 0);
        x.parish(0, 0, 1, 0, 0);
        return x;
    }

    private static void allAreParishes() {
        for (int parish = 0; parish < 4; parish++) due.is("as(" + parish + ", 0)", ofEachKind().as(parish, 0), parish);
    }

    private static void onlyThePiousArePious() {
        for (int parish = 0; parish < 4; parish++) {
            due.is("as(" + parish + ", 1)", ofEachKind().as(parish, 1), parish == 2 ? 2 : NONE);
        }
    }

    private static void slyAndBoysAreSly() {
        for (int parish = 0; parish < 4; parish++) {
            due.is("as(" + parish + ", 2)", ofEachKind().as(parish, 2), parish <= 1 ? parish : NONE);
        }
    }

    private static void onlyBoysAreBoys() {
        for (int parish = 0; parish < 4; parish++) {
            due.is("as(" + parish + ", 3)", ofEachKind().as(parish, 3), parish == 0 ? 0 : NONE);
        }
    }

    private static void asOfTheLastParish() {
        KneelingStones x = Moors.crowded();
        due.is("as(5, 3)", x.as(5, 3), 5);
        due.is("as(5, 2)", x.as(5, 2), 5);
        due.is("as(5, 0)", x.as(5, 0), 5);
        due.is("as(5, 1)", x.as(5, 1), NONE);
        due.refuses(x, "as(6, 0)", () -> x.as(6, 0), UNKNOWN);
    }

    private static void asOfNoParish() {
        KneelingStones x = ofEachKind();
        due.refuses(x, "as(4, 0)", () -> x.as(4, 0), UNKNOWN);
        for (int number : Moors.NO_NUMBERS) due.refuses(x, "as(" + number + ", 0)", () -> x.as(number, 0), UNKNOWN);
    }

    private static void asOfNoKind() {
        KneelingStones x = ofEachKind();
        for (int kind : new int[] {-1, 4, LEAST, MOST}) {
            for (int parish = 0; parish < 4; parish++) {
                int of = parish;
                due.refuses(x, "as(" + of + ", " + kind + ")", () -> x.as(of, kind), OUTSIDE);
            }
        }
    }

    private static void asUnknownIsToldAheadOfOutside() {
        KneelingStones x = ofEachKind();
        due.refuses(x, "as(4, 4)", () -> x.as(4, 4), UNKNOWN);
        due.refuses(x, "as(-1, -1)", () -> x.as(-1, -1), UNKNOWN);
    }

    // ---- 9 about

    private static void aboutWhat0To5() {
        KneelingStones x = Moors.empty();
        x.parish(1, 4, 9, 6, 7);
        int[] want = {1, 4, 9, 6, 7, 4};
        for (int what = 0; what <= 5; what++) due.is("what " + what, x.about(0, what), want[what]);
        for (int what : new int[] {-1, 6, LEAST, MOST}) due.refuses(x, "what " + what, () -> x.about(0, what), OUTSIDE);
    }

    private static void aboutTheLastParishAndTheNext() {
        KneelingStones x = Moors.empty();
        for (int i = 0; i < 6; i++) {
            int next = i;
            due.refuses(x, "about the next, " + i, () -> x.about(next, 2), UNKNOWN);
            x.parish(0, 0, 9 - i, 0, 0);
            due.is("about " + i, x.about(i, 2), 9 - i);
        }
        due.refuses(x, "about 6", () -> x.about(6, 2), UNKNOWN);
        for (int number : Moors.NO_NUMBERS) due.refuses(x, "about " + number, () -> x.about(number, 2), UNKNOWN);
    }

    private static void aboutUnknownIsToldAheadOfOutside() {
        KneelingStones x = Moors.empty();
        due.refuses(x, "about(0, 6)", () -> x.about(0, 6), UNKNOWN);
        due.refuses(x, "about(-1, -1)", () -> x.about(-1, -1), UNKNOWN);
    }

    // ---- 10 change

    private static void changed(int what, int least, int most) {
        KneelingStones x = Moors.empty();
        x.parish(2, 6, 5, 5, 5);
        x.parish(2, 6, 5, 5, 5);
        due.refuses(x, "below the least", () -> x.change(1, what, least - 1), OUTSIDE);
        due.refuses(x, "above the most", () -> x.change(1, what, most + 1), OUTSIDE);
        due.refuses(x, "far below", () -> x.change(1, what, LEAST), OUTSIDE);
        due.refuses(x, "far above", () -> x.change(1, what, MOST), OUTSIDE);
        due.is("to the least", x.change(1, what, least), 5);
        due.is("it is the least", x.about(1, what), least);
        due.is("to the most", x.change(1, what, most), least);
        due.is("it is the most", x.about(1, what), most);
        due.is("the other parish stays", x.about(0, what), 5);
        for (int other = 2; other <= 4; other++) if (other != what) due.is("others stay", x.about(1, other), 5);
    }

    private static void changeOfWalkers1To9() {
        changed(2, 1, 9);
    }

    private static void changeOfWish0To10() {
        changed(3, 0, 10);
    }

    private static void changeOfSin0To10() {
        changed(4, 0, 10);
    }

    private static void changeWhat2To4() {
        KneelingStones x = Moors.crowded();
        for (int what : new int[] {0, 1, 5, 6, -1, LEAST, MOST}) {
            due.refuses(x, "change of what " + what, () -> x.change(1, what, 3), OUTSIDE);
        }
    }

    private static void changeOfTheLastParishAndTheNext() {
        KneelingStones x = Moors.crowded();
        due.is("change(5, 4, 7)", x.change(5, 4, 7), 8);
        due.refuses(x, "change(6, 4, 7)", () -> x.change(6, 4, 7), UNKNOWN);
        KneelingStones y = ofEachKind();
        due.refuses(y, "change(4, 4, 7)", () -> y.change(4, 4, 7), UNKNOWN);
        for (int number : Moors.NO_NUMBERS) due.refuses(y, "change of " + number, () -> y.change(number, 2, 3), UNKNOWN);
    }

    private static void changeUnknownIsToldAheadOfOutside() {
        KneelingStones x = ofEachKind();
        due.refuses(x, "change(4, 5, 3)", () -> x.change(4, 5, 3), UNKNOWN);
        due.refuses(x, "change(4, 2, 0)", () -> x.change(4, 2, 0), UNKNOWN);
    }

    // ---- 11 lay

    private static void layManyFrom1To60() {
        KneelingStones x = Moors.empty();
        due.refuses(x, "lay 0", () -> x.lay(3, 0), OUTSIDE);
        due.refuses(x, "lay 61", () -> x.lay(3, 61), OUTSIDE);
        due.refuses(x, "lay the least", () -> x.lay(3, LEAST), OUTSIDE);
        due.refuses(x, "lay the most", () -> x.lay(3, MOST), OUTSIDE);
        due.is("lay 1", x.lay(3, 1), 1);
        due.is("lay 60", x.lay(4, 60), 60);
        due.is("laid", x.count(6), 61);
        due.is("spilt", x.count(8), 0);
    }

    private static void laySpillsWhatIsAbove60() {
        for (int had = 1; had <= 60; had++) {
            KneelingStones x = Moors.empty();
            x.lay(6, had);
            due.is("60 on " + had, x.lay(6, 60), 60);
            due.is("spilt", x.count(8), had);
            due.is("laid", x.count(6), had + 60);
        }
    }

    private static void layOnCairns0To6() {
        KneelingStones x = Moors.empty();
        due.is("lay on 0", x.lay(0, 2), 2);
        due.is("lay on 6", x.lay(6, 3), 3);
        due.refuses(x, "lay on 7", () -> x.lay(7, 1), UNKNOWN);
        for (int number : Moors.NO_NUMBERS) due.refuses(x, "lay on " + number, () -> x.lay(number, 1), UNKNOWN);
    }

    private static void layUnknownIsToldAheadOfOutside() {
        KneelingStones x = Moors.empty();
        due.refuses(x, "lay(7, 0)", () -> x.lay(7, 0), UNKNOWN);
        due.refuses(x, "lay(-1, 61)", () -> x.lay(-1, 61), UNKNOWN);
    }

    private static void layByHandSetsNoLastAndNoSeed() {
        KneelingStones x = Moors.empty();
        x.lay(5, 60);
        due.is("LAST", x.count(5), 0);
        due.is("THE SEED", x.count(4), 1);
        due.is("WEEK", x.count(3), 0);
    }

    // ---- 12 take

    private static void takeManyFrom1To60() {
        KneelingStones x = Moors.empty();
        Moors.heap(x, 0, 0, 0, 60, 60, 0, 0);
        due.refuses(x, "take 0", () -> x.take(3, 0), OUTSIDE);
        due.refuses(x, "take 61", () -> x.take(3, 61), OUTSIDE);
        due.refuses(x, "take the least", () -> x.take(3, LEAST), OUTSIDE);
        due.refuses(x, "take the most", () -> x.take(3, MOST), OUTSIDE);
        due.is("take 1", x.take(3, 1), 59);
        due.is("take 60", x.take(4, 60), 0);
        due.is("taken", x.count(7), 61);
    }

    private static void takeAsFarAsThereAreSome() {
        for (int had = 0; had <= 60; had += 5) {
            for (int many = 1; many <= 60; many++) {
                KneelingStones x = Moors.empty();
                if (had > 0) x.lay(0, had);
                due.is("take " + many + " of " + had, x.take(0, many), had > many ? had - many : 0);
                due.is("taken", x.count(7), had > many ? many : had);
            }
        }
    }

    private static void takeOffCairns0To6() {
        KneelingStones x = Moors.empty();
        Moors.heap(x, 3, 0, 0, 0, 0, 0, 3);
        due.is("take off 0", x.take(0, 1), 2);
        due.is("take off 6", x.take(6, 2), 1);
        due.refuses(x, "take off 7", () -> x.take(7, 1), UNKNOWN);
        for (int number : Moors.NO_NUMBERS) due.refuses(x, "take off " + number, () -> x.take(number, 1), UNKNOWN);
    }

    private static void takeUnknownIsToldAheadOfOutside() {
        KneelingStones x = Moors.empty();
        due.refuses(x, "take(7, 0)", () -> x.take(7, 0), UNKNOWN);
        due.refuses(x, "take(-1, 61)", () -> x.take(-1, 61), UNKNOWN);
    }

    private static void takeByHandSetsNoLast() {
        KneelingStones x = Moors.empty();
        x.lay(5, 9);
        x.take(5, 3);
        due.is("LAST", x.count(5), 0);
    }

    // ---- 13 height

    private static void heightOf0And60() {
        KneelingStones x = Moors.empty();
        x.lay(6, 60);
        due.is("of 0", x.height(0), 0);
        due.is("of 60", x.height(6), 60);
    }

    private static void heightOfCairns0To6() {
        KneelingStones x = Moors.crowded();
        int sum = 0;
        for (int cairn = 0; cairn < 7; cairn++) sum += x.height(cairn);
        due.is("all together", sum, x.count(2));
        due.refuses(x, "height(7)", () -> x.height(7), UNKNOWN);
        for (int number : Moors.NO_NUMBERS) due.refuses(x, "height(" + number + ")", () -> x.height(number), UNKNOWN);
    }

    // ---- 14 mark

    private static void markSoDeep0To59() {
        KneelingStones x = Moors.by("w0s0");
        x.lay(6, 1);
        x.weeks(0, 1);
        x.lay(6, 58);
        x.weeks(0, 1);
        x.lay(6, 1);
        due.is("the uppermost", x.mark(6, 0), 2);
        due.is("the next", x.mark(6, 1), 1);
        due.is("the lowest but one", x.mark(6, 58), 1);
        due.is("the lowest", x.mark(6, 59), 0);
        for (int deep : new int[] {-1, 60, LEAST, MOST}) due.refuses(x, "so deep " + deep, () -> x.mark(6, deep), OUTSIDE);
        for (int deep : new int[] {-1, 60}) due.refuses(x, "of an empty one so deep " + deep, () -> x.mark(0, deep), OUTSIDE);
    }

    private static void markOfNonePast() {
        for (int had = 1; had < 60; had++) {
            KneelingStones x = Moors.empty();
            x.lay(1, had);
            due.is("the lowest of " + had, x.mark(1, had - 1), 0);
            due.is("below " + had, x.mark(1, had), NONE);
            due.is("of " + had + " so deep 59", x.mark(1, 59), NONE);
        }
        due.is("of none", Moors.empty().mark(1, 0), NONE);
    }

    private static void markOfCairns0To6() {
        KneelingStones x = Moors.crowded();
        x.lay(0, 1);
        x.lay(6, 1);
        due.is("of 0", x.mark(0, 0), 3);
        due.is("of 6", x.mark(6, 0), 3);
        due.refuses(x, "of 7", () -> x.mark(7, 0), UNKNOWN);
        for (int number : Moors.NO_NUMBERS) due.refuses(x, "of " + number, () -> x.mark(number, 0), UNKNOWN);
    }

    private static void markUnknownIsToldAheadOfOutside() {
        KneelingStones x = Moors.empty();
        due.refuses(x, "mark(7, 60)", () -> x.mark(7, 60), UNKNOWN);
        due.refuses(x, "mark(-1, -1)", () -> x.mark(-1, -1), UNKNOWN);
    }

    // ---- 15 dated

    private static void datedWeek0To9999() {
        KneelingStones x = Moors.old();
        x.lay(6, 4);
        due.is("the mark of WEEK 9999", x.mark(6, 0), 9999);
        due.is("dated(6, 9999)", x.dated(6, 9999), 4);
        due.is("dated(6, 9998)", x.dated(6, 9998), 0);
        due.is("dated(6, 0)", x.dated(6, 0), 0);
        for (int week : new int[] {-1, 10000, LEAST, MOST}) due.refuses(x, "week " + week, () -> x.dated(6, week), OUTSIDE);
        KneelingStones y = Moors.empty();
        y.lay(6, 60);
        due.is("all 60 of WEEK 0", y.dated(6, 0), 60);
        due.is("a week to come", y.dated(6, 1), 0);
        due.is("the last week that may be", y.dated(6, 9999), 0);
    }

    private static void datedCountsLowestAndUppermost() {
        KneelingStones x = Moors.by("w0s0");
        x.lay(0, 1);
        x.weeks(0, 1);
        x.lay(0, 2);
        x.weeks(0, 1);
        x.lay(0, 1);
        due.is("dated(0, 0)", x.dated(0, 0), 1);
        due.is("dated(0, 1)", x.dated(0, 1), 2);
        due.is("dated(0, 2)", x.dated(0, 2), 1);
        x.take(0, 1);
        due.is("a taken one is not told", x.dated(0, 2), 0);
    }

    private static void datedOfCairns0To6() {
        KneelingStones x = Moors.crowded();
        x.take(0, 60);
        x.lay(0, 2);
        x.take(6, 60);
        x.lay(6, 3);
        due.is("of 0", x.dated(0, 3), 2);
        due.is("of 6", x.dated(6, 3), 3);
        due.refuses(x, "of 7", () -> x.dated(7, 0), UNKNOWN);
        for (int number : Moors.NO_NUMBERS) due.refuses(x, "of " + number, () -> x.dated(number, 0), UNKNOWN);
    }

    private static void datedUnknownIsToldAheadOfOutside() {
        KneelingStones x = Moors.empty();
        due.refuses(x, "dated(7, 10000)", () -> x.dated(7, 10000), UNKNOWN);
        due.refuses(x, "dated(-1, -1)", () -> x.dated(-1, -1), UNKNOWN);
    }

    // ---- 16 seed

    private static void seedFrom0To2147483647() {
        KneelingStones x = Moors.empty();
        due.is("seed(0)", x.seed(0), 1);
        due.refuses(x, "seed(-1)", () -> x.seed(-1), OUTSIDE);
        due.refuses(x, "seed of the least", () -> x.seed(LEAST), OUTSIDE);
        due.is("seed of the most", x.seed(MOST), 0);
        due.is("count(4)", x.count(4), MOST);
        due.is("seed(5)", x.seed(5), MOST);
    }

    // ---- 17 weeks

    private static void weeksFrom1To60() {
        KneelingStones x = Moors.by("w0s0");
        x.parish(0, 0, 1, 10, 0);
        due.refuses(x, "0 weeks", () -> x.weeks(0, 0), OUTSIDE);
        due.refuses(x, "61 weeks", () -> x.weeks(0, 61), OUTSIDE);
        due.refuses(x, "the least", () -> x.weeks(0, LEAST), OUTSIDE);
        due.refuses(x, "the most", () -> x.weeks(0, MOST), OUTSIDE);
        due.is("1 week", x.weeks(0, 1), 1);
        due.is("WEEK", x.count(3), 1);
        x.take(0, 1);
        due.is("60 weeks", x.weeks(0, 60), 60);
        due.is("WEEK", x.count(3), 61);
    }

    private static void weekMayBe9999Not10000() {
        KneelingStones x = Moors.by("w0s0");
        for (int i = 0; i < 166; i++) x.weeks(0, 60);
        due.refuses(x, "9960 and 60", () -> x.weeks(0, 60), STATE);
        due.refuses(x, "9960 and 40", () -> x.weeks(0, 40), STATE);
        due.is("9960 and 39", x.weeks(0, 39), 0);
        due.is("WEEK", x.count(3), 9999);
        due.refuses(x, "9999 and 1", () -> x.weeks(0, 1), STATE);
    }

    private static void week9999OneByOne() {
        KneelingStones x = Moors.by("w0s0");
        for (int i = 0; i < 166; i++) x.weeks(0, 60);
        x.weeks(0, 38);
        due.refuses(x, "9998 and 2", () -> x.weeks(0, 2), STATE);
        due.is("9998 and 1", x.weeks(0, 1), 0);
        due.is("WEEK", x.count(3), 9999);
    }

    private static void weeksRefusalsInOrder() {
        KneelingStones x = Moors.old();
        due.refuses(x, "unknown and outside", () -> x.weeks(1, 0), UNKNOWN);
        due.refuses(x, "unknown and too late", () -> x.weeks(1, 1), UNKNOWN);
        due.refuses(x, "0 weeks, too late", () -> x.weeks(0, 0), OUTSIDE);
        due.refuses(x, "61 weeks, too late", () -> x.weeks(0, 61), OUTSIDE);
        due.refuses(x, "1 week, too late", () -> x.weeks(0, 1), STATE);
    }

    private static void weeksByCustoms0To3() {
        KneelingStones x = Moors.by("w0s0", "w1s0", "w2s0");
        x.parish(0, 0, 1, 10, 0);
        due.refuses(x, "by 3 of three", () -> x.weeks(3, 1), UNKNOWN);
        Due.custom(x, "w6s0");
        due.is("by 0", x.weeks(0, 1), 1);
        due.is("by 3", x.weeks(3, 1), 2);
        due.is("height(0)", x.height(0), 1);
        due.is("height(6)", x.height(6), 1);
        due.refuses(x, "by 4", () -> x.weeks(4, 1), UNKNOWN);
        for (int number : Moors.NO_NUMBERS) due.refuses(x, "by " + number, () -> x.weeks(number, 1), UNKNOWN);
    }

    private static void weeksOfNobodyAndOfAllFull() {
        KneelingStones x = Moors.by("w0s0");
        due.is("of nobody, all empty", x.weeks(0, 60), 0);
        Moors.heap(x, 60, 60, 60, 60, 60, 60, 60);
        due.is("of nobody, all full", x.weeks(0, 60), 420);
        x.parish(1, 4, 9, 10, 0);
        due.is("all full", x.weeks(0, 1), 420);
        due.is("spilt", x.count(8), 36);
    }

    // ---- 18 would

    private static void wouldBehind0To60() {
        KneelingStones x = Moors.by("w4s0");
        x.parish(0, 0, 1, 10, 0);
        due.is("behind 0", x.would(0, 4, 0), 0);
        due.is("behind 1", x.would(0, 4, 1), 1);
        due.is("behind 59", x.would(0, 4, 59), 59);
        due.is("behind 60", x.would(0, 4, 60), 60);
        for (int weeks : new int[] {-1, 61, LEAST, MOST}) {
            due.refuses(x, "behind " + weeks, () -> x.would(0, 4, weeks), OUTSIDE);
        }
    }

    private static void wouldBehind0IsWhatIs() {
        KneelingStones x = Moors.crowded();
        for (int cairn = 0; cairn < 7; cairn++) due.is("would(0, " + cairn + ", 0)", x.would(0, cairn, 0), x.height(cairn));
    }

    private static void wouldOfCairns0To6() {
        KneelingStones x = Moors.crowded();
        due.is("of 0", x.would(0, 0, 0), x.height(0));
        due.is("of 6", x.would(0, 6, 0), x.height(6));
        due.refuses(x, "of 7", () -> x.would(0, 7, 1), UNKNOWN);
        for (int number : Moors.NO_NUMBERS) due.refuses(x, "of " + number, () -> x.would(0, number, 1), UNKNOWN);
    }

    private static void wouldByCustoms0To3() {
        KneelingStones x = Moors.by("w0s0", "w1s0", "w2s0");
        x.parish(0, 0, 1, 10, 0);
        due.refuses(x, "by 3 of three", () -> x.would(3, 0, 1), UNKNOWN);
        Due.custom(x, "w6s0");
        due.is("by 3", x.would(3, 6, 5), 5);
        due.refuses(x, "by 4", () -> x.would(4, 0, 1), UNKNOWN);
        for (int number : Moors.NO_NUMBERS) due.refuses(x, "by " + number, () -> x.would(number, 0, 1), UNKNOWN);
    }

    private static void wouldUnknownIsToldAheadOfOutside() {
        KneelingStones x = Moors.by("w0s0");
        due.refuses(x, "no custom, 61", () -> x.would(1, 0, 61), UNKNOWN);
        due.refuses(x, "no cairn, -1", () -> x.would(0, 7, -1), UNKNOWN);
    }

    private static void wouldGoesOnBehindWeek9999() {
        KneelingStones x = Moors.old();
        x.parish(0, 0, 1, 10, 0);
        due.is("behind 60", x.would(0, 0, 60), 60);
        due.is("WEEK stays", x.count(3), 9999);
    }

    // ---- 19 order

    private static void order0To6() {
        KneelingStones x = Moors.empty();
        Moors.heap(x, 1, 2, 3, 60, 4, 5, 0);
        int[] want = {3, 5, 4, 2, 1, 0, 6};
        for (int i = 0; i < 7; i++) due.is("order(" + i + ")", x.order(i), want[i]);
        for (int i : new int[] {-1, 7, LEAST, MOST}) due.refuses(x, "order(" + i + ")", () -> x.order(i), OUTSIDE);
    }

    private static void orderOfLikeOnesTheLeastFirst() {
        KneelingStones x = Moors.empty();
        for (int i = 0; i < 7; i++) due.is("of empty ones", x.order(i), i);
        Moors.heap(x, 60, 60, 60, 60, 60, 60, 60);
        for (int i = 0; i < 7; i++) due.is("of full ones", x.order(i), i);
        x.take(0, 1);
        for (int i = 0; i < 7; i++) due.is("0 has one less", x.order(i), (i + 1) % 7);
        x.take(6, 1);
        int[] want = {1, 2, 3, 4, 5, 0, 6};
        for (int i = 0; i < 7; i++) due.is("0 and 6 have one less", x.order(i), want[i]);
    }
}
