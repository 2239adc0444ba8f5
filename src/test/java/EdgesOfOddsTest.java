/** Promises 20 to 23 and section 2 of the terms: each boundary that a sentence names, from both sides. */
public final class EdgesOfOddsTest {
    private static final int NONE = Moors.NONE, UNKNOWN = Moors.UNKNOWN, OUTSIDE = Moors.OUTSIDE;
    private static final int LEAST = Moors.LEAST, MOST = Moors.MOST;
    private static final long TEN_TO_18 = 1000000000000000000L;
    private static final Due due = new Due();

    public static void main(String[] args) {
        due.runEach(EdgesOfOddsTest.class);
        due.end("EdgesOfOddsTest");
    }

    private static KneelingStones of(int kind, int n, int walkers, int wish, int sin) {
        KneelingStones x = Moors.empty();
        x.parish(kind, n, walkers, wish, sin);
        return x;
    }

    private static void odds(KneelingStones x, int wishes, int sins, long above, long below) {
        due.is("odds of " + wishes + " and " + sins + ", above", x.odds(0, wishes, sins, 0), above);
        due.is("odds of " + wishes + " and " + sins + ", below", x.odds(0, wishes, sins, 1), below);
    }

    private static void chance(KneelingStones x, int net, long above, long below) {
        due.is("chance of net " + net + ", above", x.chance(0, net, 0), above);
        due.is("chance of net " + net + ", below", x.chance(0, net, 1), below);
    }

    private static void sinned(KneelingStones x, int net, long above, long below) {
        due.is("sinned by net " + net + ", above", x.sinned(0, net, 0), above);
        due.is("sinned by net " + net + ", below", x.sinned(0, net, 1), below);
    }

    // ---- 20 odds

    private static void oddsOf0Are0To1() {
        KneelingStones x = of(0, 0, 9, 0, 0);
        odds(x, 1, 0, 0, 1);
        odds(x, 9, 0, 0, 1);
        odds(x, 0, 1, 0, 1);
        odds(x, 0, 9, 0, 1);
        odds(of(0, 0, 9, 10, 10), 0, 0, 0, 1);
        odds(of(0, 0, 9, 10, 10), 8, 1, 0, 1);
        odds(of(0, 0, 9, 0, 10), 0, 8, 0, 1);
    }

    private static void oddsOfAllAre1To1() {
        odds(of(0, 0, 9, 0, 0), 0, 0, 1, 1);
        odds(of(0, 0, 9, 10, 10), 9, 0, 1, 1);
        odds(of(0, 0, 9, 0, 10), 0, 9, 1, 1);
        odds(of(0, 0, 1, 10, 0), 1, 0, 1, 1);
    }

    private static void oddsOfTheLeast() {
        odds(of(0, 0, 9, 9, 9), 0, 0, 1, TEN_TO_18);
        odds(of(0, 0, 9, 9, 1), 0, 9, 1, TEN_TO_18);
        odds(of(0, 0, 9, 1, 0), 9, 0, 1, 1000000000);
        odds(of(0, 0, 9, 9, 9), 9, 0, 387420489, 1000000000);
        odds(of(0, 0, 9, 1, 9), 0, 9, 150094635296999121L, TEN_TO_18);
        odds(of(0, 0, 9, 9, 1), 8, 1, 387420489, 10000000000L);
    }

    private static void oddsOfOneWalker() {
        KneelingStones x = of(0, 0, 1, 3, 1);
        odds(x, 1, 0, 3, 10);
        odds(x, 0, 1, 7, 100);
        odds(x, 0, 0, 63, 100);
    }

    private static void oddsOfAllWaysAreOne() {
        KneelingStones x = of(0, 0, 9, 3, 7);
        long sum = 0;
        for (int wishes = 0; wishes <= 9; wishes++) {
            for (int sins = 0; wishes + sins <= 9; sins++) {
                long below = x.odds(0, wishes, sins, 1);
                due.holds("its lower part is above 0", below > 0);
                if (below > 0) sum += x.odds(0, wishes, sins, 0) * (TEN_TO_18 / below);
            }
        }
        due.is("together", sum, TEN_TO_18);
    }

    private static void oddsWishes0To9() {
        KneelingStones x = of(0, 0, 9, 5, 5);
        odds(x, 9, 0, 1, 512);
        for (int wishes : new int[] {-1, 10, LEAST, MOST}) {
            due.refuses(x, "wishes " + wishes, () -> x.odds(0, wishes, 0, 0), OUTSIDE);
        }
        due.refuses(x, "wishes -1, sins 9", () -> x.odds(0, -1, 9, 0), OUTSIDE);
        due.refuses(x, "wishes -1, sins 1", () -> x.odds(0, -1, 1, 0), OUTSIDE);
    }

    private static void oddsSins0To9() {
        KneelingStones x = of(0, 0, 9, 5, 5);
        odds(x, 0, 9, 1, 262144);
        for (int sins : new int[] {-1, 10, LEAST, MOST}) {
            due.refuses(x, "sins " + sins, () -> x.odds(0, 0, sins, 0), OUTSIDE);
        }
        due.refuses(x, "sins -1, wishes 9", () -> x.odds(0, 9, -1, 0), OUTSIDE);
        due.refuses(x, "sins -1, wishes 1", () -> x.odds(0, 1, -1, 0), OUTSIDE);
        due.refuses(x, "the most of both", () -> x.odds(0, MOST, MOST, 0), OUTSIDE);
        due.refuses(x, "the least of both", () -> x.odds(0, LEAST, LEAST, 0), OUTSIDE);
    }

    private static void oddsTogetherWalkersAtMost() {
        for (int walkers = 1; walkers <= 9; walkers++) {
            KneelingStones x = of(0, 0, walkers, 5, 5);
            for (int wishes = 0; wishes <= walkers; wishes++) {
                int sins = walkers - wishes;
                int by = wishes;
                due.holds("all " + walkers, x.odds(0, wishes, sins, 0) > 0);
                due.refuses(x, "one more than " + walkers, () -> x.odds(0, by, sins + 1, 0), OUTSIDE);
            }
            int all = walkers;
            due.refuses(x, "wishes above " + walkers, () -> x.odds(0, all + 1, 0, 0), OUTSIDE);
        }
    }

    private static void oddsGoByWalkersAsTheyAreNow() {
        KneelingStones x = of(0, 0, 2, 5, 5);
        due.refuses(x, "three of two", () -> x.odds(0, 3, 0, 0), OUTSIDE);
        x.change(0, 2, 3);
        odds(x, 3, 0, 1, 8);
        x.change(0, 2, 1);
        due.refuses(x, "two of one", () -> x.odds(0, 2, 0, 0), OUTSIDE);
    }

    private static void oddsParts0And1() {
        KneelingStones x = of(0, 0, 1, 5, 5);
        for (int part : new int[] {-1, 2, LEAST, MOST}) {
            due.refuses(x, "part " + part, () -> x.odds(0, 1, 0, part), OUTSIDE);
        }
    }

    private static void unknownParishes(KneelingStones x, int many) {
        due.refuses(x, "odds of the next", () -> x.odds(many, 0, 0, 0), UNKNOWN);
        due.refuses(x, "chance of the next", () -> x.chance(many, 0, 0), UNKNOWN);
        due.refuses(x, "sinned of the next", () -> x.sinned(many, 0, 0), UNKNOWN);
        for (int number : Moors.NO_NUMBERS) {
            due.refuses(x, "odds of " + number, () -> x.odds(number, 0, 0, 0), UNKNOWN);
            due.refuses(x, "chance of " + number, () -> x.chance(number, 0, 0), UNKNOWN);
            due.refuses(x, "sinned of " + number, () -> x.sinned(number, 0, 0), UNKNOWN);
        }
    }

    private static void parishesThatAreToldAndTheNext() {
        KneelingStones x = Moors.empty();
        for (int many = 0; many <= 6; many++) {
            unknownParishes(x, many);
            x.parish(0, 0, 1, 5, 10);
            if (many == 6) break;
            due.is("odds of " + many, x.odds(many, 1, 0, 1), 2);
            due.is("chance of " + many, x.chance(many, 1, 1), 2);
            due.is("sinned of " + many, x.sinned(many, -1, 0), 1);
        }
    }

    private static void unknownIsToldAheadOfOutside() {
        KneelingStones x = of(0, 0, 1, 5, 5);
        due.refuses(x, "odds, wishes", () -> x.odds(1, 10, 0, 0), UNKNOWN);
        due.refuses(x, "odds, part", () -> x.odds(1, 0, 0, 2), UNKNOWN);
        due.refuses(x, "chance, net", () -> x.chance(1, 37, 0), UNKNOWN);
        due.refuses(x, "chance, part", () -> x.chance(1, 0, -1), UNKNOWN);
        due.refuses(x, "sinned, net", () -> x.sinned(1, -10, 0), UNKNOWN);
        due.refuses(x, "sinned, part", () -> x.sinned(1, 0, 2), UNKNOWN);
    }

    // ---- 21 chance

    private static void chanceNetFromMinus9To36() {
        chance(of(1, 4, 9, 10, 0), 36, 1, 1);
        chance(of(1, 4, 9, 10, 0), 35, 0, 1);
        chance(of(0, 0, 9, 0, 10), -9, 1, 1);
        chance(of(0, 0, 9, 0, 10), -8, 0, 1);
        KneelingStones x = of(1, 4, 9, 5, 5);
        chance(x, 36, 1, 512);
        chance(x, -9, 1, 262144);
        for (int net : new int[] {-10, 37, LEAST, MOST}) {
            due.refuses(x, "net " + net, () -> x.chance(0, net, 0), OUTSIDE);
        }
    }

    private static void chanceOfANetThatCannotBeIs0To1() {
        KneelingStones x = of(1, 4, 1, 5, 5);
        for (int net = -9; net <= 36; net++) {
            if (net < -1 || net > 0 && net != 4) chance(x, net, 0, 1);
        }
        chance(x, -1, 1, 4);
        chance(x, 0, 1, 4);
        chance(x, 4, 1, 2);
    }

    private static void chanceSumsUpAllWays() {
        KneelingStones x = of(1, 4, 5, 5, 10);
        chance(x, 0, 5, 32);
        chance(x, 5, 5, 16);
        // Net 0 of five that may rest: all rest (1 of 1024), or one wishes and four sin (10 of 1024).
        x.change(0, 4, 5);
        chance(x, 0, 11, 1024);
        sinned(x, 0, 10, 11);
    }

    private static void chanceOfSlyCountsNoSins() {
        for (int kind = 2; kind <= 3; kind++) {
            KneelingStones x = of(kind, 6, 2, 5, 5);
            chance(x, 0, 1, 4);
            chance(x, 1, 1, 2);
            chance(x, 2, 1, 4);
            chance(x, -1, 0, 1);
            chance(x, 3, 0, 1);
        }
    }

    private static void chanceParts0And1() {
        KneelingStones x = of(0, 0, 1, 5, 5);
        for (int part : new int[] {-1, 2, LEAST, MOST}) due.refuses(x, "part " + part, () -> x.chance(0, 0, part), OUTSIDE);
    }

    // ---- 22 sinned

    private static void sinnedNetFromMinus9To36() {
        sinned(of(1, 4, 9, 10, 0), 36, 0, 1);
        sinned(of(0, 0, 9, 0, 10), -9, 1, 1);
        KneelingStones x = of(1, 4, 9, 5, 5);
        sinned(x, 36, 0, 1);
        sinned(x, -9, 1, 1);
        for (int net : new int[] {-10, 37, LEAST, MOST}) {
            due.refuses(x, "net " + net, () -> x.sinned(0, net, 0), OUTSIDE);
        }
    }

    private static void sinnedIsNoneBothIfThatNetCannotBe() {
        KneelingStones x = of(1, 4, 1, 5, 5);
        for (int net = -9; net <= 36; net++) {
            if (net < -1 || net > 0 && net != 4) sinned(x, net, NONE, NONE);
        }
        sinned(x, -1, 1, 1);
        sinned(x, 0, 0, 1);
        sinned(x, 4, 0, 1);
        sinned(of(1, 4, 9, 10, 0), 35, NONE, NONE);
        sinned(of(0, 0, 9, 0, 10), -8, NONE, NONE);
    }

    private static void sinnedBetweenNeverAndAlways() {
        // Net 0 of two: both rest (1 of 16) or one wishes and one sins (4 of 16).
        sinned(of(0, 0, 2, 5, 5), 0, 4, 5);
        sinned(of(2, 3, 2, 5, 5), 0, 3, 4);
        sinned(of(3, 3, 1, 5, 10), 0, 1, 1);
        sinned(of(3, 3, 1, 5, 10), 1, 0, 1);
        sinned(of(3, 3, 1, 5, 10), -1, NONE, NONE);
    }

    private static void sinnedParts0And1() {
        KneelingStones x = of(0, 0, 1, 5, 5);
        for (int part : new int[] {-1, 2, LEAST, MOST}) {
            due.refuses(x, "part " + part, () -> x.sinned(0, 0, part), OUTSIDE);
            due.refuses(x, "no such net, part " + part, () -> x.sinned(0, 36, part), OUTSIDE);
        }
    }

    // ---- 23 bounds

    private static void bounds(String who, KneelingStones x, int net, int few, int most, int must, int may) {
        due.is(who + ": bounds(" + net + ", 0)", x.bounds(net, 0), few);
        due.is(who + ": bounds(" + net + ", 1)", x.bounds(net, 1), most);
        due.is(who + ": bounds(" + net + ", 2)", x.bounds(net, 2), must);
        due.is(who + ": bounds(" + net + ", 3)", x.bounds(net, 3), may);
    }

    private static void cannotBe(String who, KneelingStones x, int net) {
        bounds(who, x, net, NONE, NONE, 0, 0);
    }

    private static KneelingStones sixOf(int kind, int n, int wish, int sin) {
        KneelingStones x = Moors.empty();
        for (int i = 0; i < 6; i++) x.parish(kind, n, 9, wish, sin);
        return x;
    }

    private static void boundsNetFromMinus54To216() {
        bounds("54 sin", sixOf(0, 0, 0, 10), -54, 54, 54, 63, 63);
        cannotBe("54 sin", sixOf(0, 0, 0, 10), -53);
        bounds("54 wish", sixOf(1, 4, 10, 0), 216, 0, 0, 0, 0);
        cannotBe("54 wish", sixOf(1, 4, 10, 0), 215);
        KneelingStones x = sixOf(1, 4, 5, 5);
        bounds("54 do all", x, -54, 54, 54, 63, 63);
        bounds("54 do all", x, -53, 53, 53, 63, 63);
        bounds("54 do all", x, -46, 46, 50, 63, 63);
        bounds("54 do all", x, -45, 45, 49, 0, 63);
        bounds("54 do all", x, 216, 0, 0, 0, 0);
        bounds("54 do all", x, 212, 0, 0, 0, 0);
        bounds("54 do all", x, 211, 1, 1, 0, 63);
        cannotBe("54 do all", x, 215);
        for (int net : new int[] {-55, 217, LEAST, MOST}) {
            for (int what = 0; what < 4; what++) {
                int of = what;
                due.refuses(x, "bounds(" + net + ", " + of + ")", () -> x.bounds(net, of), OUTSIDE);
            }
        }
    }

    private static void boundsWhat0To3() {
        KneelingStones x = sixOf(0, 0, 5, 5);
        for (int what : new int[] {-1, 4, LEAST, MOST}) {
            due.refuses(x, "what " + what, () -> x.bounds(0, what), OUTSIDE);
            due.refuses(x, "what " + what + " of a net that cannot be", () -> x.bounds(216, what), OUTSIDE);
        }
    }

    private static void boundsOfNobody() {
        KneelingStones x = Moors.empty();
        bounds("nobody", x, 0, 0, 0, 0, 0);
        for (int net : new int[] {-54, -1, 1, 216}) cannotBe("nobody", x, net);
    }

    private static void whatOneWalkerCanDo() {
        for (int wish = 0; wish <= 10; wish++) {
            for (int sin = 0; sin <= 10; sin++) {
                String who = "wish " + wish + ", sin " + sin;
                KneelingStones x = of(1, 3, 1, wish, sin);
                if (wish > 0) bounds(who, x, 3, 0, 0, 0, 0);
                else cannotBe(who, x, 3);
                if (wish < 10 && sin > 0) bounds(who, x, -1, 1, 1, 1, 1);
                else cannotBe(who, x, -1);
                if (wish < 10 && sin < 10) bounds(who, x, 0, 0, 0, 0, 0);
                else cannotBe(who, x, 0);
            }
        }
    }

    private static void whatOneSlyWalkerCanDo() {
        for (int kind = 2; kind <= 3; kind++) {
            for (int wish = 0; wish <= 10; wish++) {
                for (int sin = 0; sin <= 10; sin++) {
                    String who = "kind " + kind + ", wish " + wish + ", sin " + sin;
                    KneelingStones x = of(kind, 3, 1, wish, sin);
                    if (wish > 0) bounds(who, x, 1, 0, 0, 0, 0);
                    else cannotBe(who, x, 1);
                    cannotBe(who, x, -1);
                    if (wish == 10) cannotBe(who, x, 0);
                    else bounds(who, x, 0, sin == 10 ? 1 : 0, sin > 0 ? 1 : 0, sin == 10 ? 1 : 0, sin > 0 ? 1 : 0);
                }
            }
        }
    }

    private static void eachParishHasItsBit() {
        for (int sinful = 0; sinful < 6; sinful++) {
            KneelingStones x = Moors.empty();
            for (int i = 0; i < 6; i++) x.parish(0, 0, 9, 5, i == sinful ? 5 : 0);
            bounds("only " + sinful + " sins", x, -9, 9, 9, 1 << sinful, 1 << sinful);
            bounds("only " + sinful + " sins", x, -1, 1, 9, 1 << sinful, 1 << sinful);
            bounds("only " + sinful + " sins", x, 0, 0, 9, 0, 1 << sinful);
            bounds("only " + sinful + " sins", x, 53, 0, 0, 0, 0);
            cannotBe("only " + sinful + " sins", x, -10);
            cannotBe("only " + sinful + " sins", x, 55);
        }
    }

    private static void mustIfTheOthersAreTooFew() {
        KneelingStones x = Moors.empty();
        x.parish(0, 0, 3, 5, 5);
        x.parish(0, 0, 2, 5, 5);
        bounds("three and two", x, -1, 1, 3, 0, 3);
        bounds("three and two", x, -2, 2, 3, 0, 3);
        bounds("three and two", x, -3, 3, 4, 1, 3);
        bounds("three and two", x, -4, 4, 4, 3, 3);
        bounds("three and two", x, -5, 5, 5, 3, 3);
        bounds("three and two", x, 5, 0, 0, 0, 0);
        bounds("three and two", x, 4, 0, 0, 0, 0);
        bounds("three and two", x, 3, 0, 1, 0, 3);
    }

    private static void mustAtLeastOneWalkerByAllWays() {
        // Two that never rest: of net 0 one wished and one sinned, whoever it was.
        KneelingStones x = of(0, 0, 2, 5, 10);
        bounds("one of two", x, 0, 1, 1, 1, 1);
        bounds("both", x, -2, 2, 2, 1, 1);
        bounds("none", x, 2, 0, 0, 0, 0);
        cannotBe("one rests", x, 1);
        cannotBe("one rests", x, -1);
    }

    private static void mayBySomeWay() {
        KneelingStones x = Moors.empty();
        x.parish(1, 3, 1, 5, 5);
        x.parish(2, 0, 1, 5, 5);
        bounds("a pious and a sly", x, 4, 0, 0, 0, 0);
        bounds("a pious and a sly", x, 3, 0, 1, 0, 2);
        bounds("a pious and a sly", x, 1, 0, 0, 0, 0);
        bounds("a pious and a sly", x, 0, 0, 1, 0, 3);
        bounds("a pious and a sly", x, -1, 1, 2, 1, 3);
        cannotBe("a pious and a sly", x, -2);
        cannotBe("a pious and a sly", x, 2);
        cannotBe("a pious and a sly", x, 5);
    }

    private static void boundsGoByAChange() {
        KneelingStones x = of(0, 0, 1, 0, 0);
        bounds("who rests", x, 0, 0, 0, 0, 0);
        x.change(0, 4, 10);
        cannotBe("who sins", x, 0);
        bounds("who sins", x, -1, 1, 1, 1, 1);
        x.change(0, 3, 10);
        cannotBe("who wishes", x, -1);
        bounds("who wishes", x, 1, 0, 0, 0, 0);
        x.change(0, 2, 9);
        bounds("nine wish", x, 9, 0, 0, 0, 0);
        cannotBe("nine wish", x, 1);
    }
}
