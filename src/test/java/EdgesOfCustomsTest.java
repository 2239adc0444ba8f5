/** Promises 1 to 6: each boundary that a sentence names, from both sides. */
public final class EdgesOfCustomsTest {
    private static final int UNKNOWN = Moors.UNKNOWN, OUTSIDE = Moors.OUTSIDE, STATE = Moors.STATE, FULL = Moors.FULL;
    private static final String RULES = "0123456mlpn";
    private static final Due due = new Due();

    public static void main(String[] args) {
        due.runEach(EdgesOfCustomsTest.class);
        due.end("EdgesOfCustomsTest");
    }

    private static KneelingStones page(String text) {
        KneelingStones x = Moors.empty();
        Due.write(x, text);
        return x;
    }

    // ---- 1 a new object

    private static void newCairnsAreSevenAndEmpty() {
        KneelingStones x = Moors.empty();
        for (int cairn = 0; cairn < 7; cairn++) {
            due.is("height(" + cairn + ")", x.height(cairn), 0);
            due.is("mark(" + cairn + ", 0)", x.mark(cairn, 0), Moors.NONE);
        }
        due.is("height(7)", x.height(7), UNKNOWN);
    }

    private static void newNoParishes() {
        KneelingStones x = Moors.empty();
        due.is("count(0)", x.count(0), 0);
        due.is("about(0, 0)", x.about(0, 0), UNKNOWN);
    }

    private static void newNoCustoms() {
        KneelingStones x = Moors.empty();
        due.is("count(1)", x.count(1), 0);
        due.is("customTold(0, 0)", x.customTold(0, 0), UNKNOWN);
        due.is("count(9)", x.count(9), 0);
    }

    private static void newSharesNothingWithAnother() {
        long was = Moors.empty().digest();
        KneelingStones x = Moors.crowded();
        x.image();
        due.is("digest() of another", Moors.empty().digest(), was);
        due.is("restore() of another", Moors.empty().restore(), STATE);
    }

    // ---- 2 letters

    private static void eightLettersAtOnceTheLowestByteFirst() {
        KneelingStones x = Moors.empty();
        due.is("eight", x.letters(0x3130393366317377L), 8);
        KneelingStones y = Moors.empty();
        for (char c : "ws1f3901".toCharArray()) y.letters(c);
        due.is("one by one", y.digest(), x.digest());
    }

    private static void sevenLettersAndA0() {
        due.is("seven", Moors.empty().letters(0x0031393366317377L), 7);
    }

    private static void noLetters() {
        KneelingStones x = Moors.empty();
        due.is("of none", x.letters(0), 0);
        x.letters('w');
        due.is("behind one", x.letters(0), 1);
    }

    private static void aByteOf126MayBe127MayNot() {
        for (int place = 0; place < 8; place++) {
            long ahead = 0x0101010101010101L & ((1L << 8 * place) - 1);
            KneelingStones x = Moors.empty();
            for (int code = 127; code <= 255; code++) {
                long w = ahead | (long) code << 8 * place;
                due.refuses(x, "letters " + w, () -> x.letters(w), OUTSIDE);
            }
            due.is("126 at " + place, x.letters(ahead | 126L << 8 * place), place + 1);
        }
    }

    private static void aByteOf1MayBe() {
        for (int place = 0; place < 8; place++) {
            long ahead = 0x7e7e7e7e7e7e7e7eL & ((1L << 8 * place) - 1);
            due.is("1 at " + place, Moors.empty().letters(ahead | 1L << 8 * place), place + 1);
        }
    }

    private static void noByteBehindA0ButA0() {
        KneelingStones x = Moors.empty();
        for (int zero = 0; zero < 7; zero++) {
            for (int place = zero + 1; place < 8; place++) {
                long ahead = 0x7777777777777777L & ((1L << 8 * zero) - 1);
                for (long code : new long[] {1, 126, 127, 255}) {
                    long w = ahead | code << 8 * place;
                    due.refuses(x, "letters " + w, () -> x.letters(w), OUTSIDE);
                }
            }
        }
        due.is("letters of nothing refused", x.count(9), 0);
    }

    private static void sixteenLettersMayBe17MayNot() {
        for (int had = 9; had <= 16; had++) {
            KneelingStones x = page("wwwwwwww");
            for (int i = 8; i < had; i++) x.letters('s');
            for (int more = 1; more <= 8; more++) {
                long w = 0x6666666666666666L >>> 64 - 8 * more;
                if (had + more > 16) due.refuses(x, had + " and " + more, () -> x.letters(w), FULL);
            }
            if (had < 16) due.is(had + " and the rest", x.letters(0x6666666666666666L >>> 8 * (had - 8)), 16);
            due.is("letters in the end", x.count(9), 16);
        }
    }

    private static void eightAndEightMayBe() {
        KneelingStones x = page("wwwwwwww");
        due.is("eight more", x.letters(0x7373737373737373L), 16);
        due.refuses(x, "and one", () -> x.letters('s'), FULL);
        due.is("and none: it is not above 16", x.letters(0), 16);
    }

    private static void lettersOutsideIsToldAheadOfFull() {
        KneelingStones x = page("wwwwwwwwwwwwwwww");
        due.refuses(x, "a byte of 127", () -> x.letters(127), OUTSIDE);
        due.refuses(x, "a byte behind a 0", () -> x.letters(0x100), OUTSIDE);
        due.refuses(x, "eight bytes of 255", () -> x.letters(-1), OUTSIDE);
        due.refuses(x, "a byte of 126", () -> x.letters(126), FULL);
    }

    // ---- 3 blank

    private static void blankOfNoneOf1AndOf16() {
        due.is("of none", Moors.empty().blank(), 0);
        for (String text : new String[] {"w", "wwwwwwwwwwwwwwww"}) {
            KneelingStones x = page(text);
            due.is("blank of " + text, x.blank(), text.length());
            due.is("letters then", x.count(9), 0);
            due.is("fault then", x.fault(), 0);
            due.is("blank then", x.blank(), 0);
        }
    }

    private static void behindBlank16LettersMayCome() {
        KneelingStones x = page("ffffffffffffffff");
        x.blank();
        due.is("new ones", Due.write(x, "w1s1"), 4);
        due.is("of old ones none is left", x.custom(), 0);
        due.is("16 again", Due.write(x, "wwwwwwwwwwwwwwww"), 16);
    }

    // ---- 4 fault

    private static void codesThatMayBe(String ahead, String may) {
        for (int code = 1; code <= 126; code++) {
            KneelingStones x = page(ahead);
            x.letters(code);
            int want = ahead.length() + (may.indexOf(code) >= 0 ? 1 : 0);
            due.is("fault of " + ahead + " and code " + code, x.fault(), want);
        }
    }

    private static void place0IsW() {
        codesThatMayBe("", "w");
    }

    private static void place1IsARule() {
        codesThatMayBe("w", RULES);
    }

    private static void place2IsS() {
        codesThatMayBe("w0", "s");
        codesThatMayBe("wn", "s");
    }

    private static void place3IsARule() {
        codesThatMayBe("w0s", RULES);
    }

    private static void place4IsF() {
        codesThatMayBe("w0s6", "f");
        codesThatMayBe("wmsl", "f");
    }

    private static void place5IsEvery() {
        codesThatMayBe("w0s6f", "123456789");
    }

    private static void place6IsNothing() {
        codesThatMayBe("w0s6f1", "");
        codesThatMayBe("wpsnf9", "");
    }

    private static void faultOfAnEmptyPage() {
        due.is("fault", Moors.empty().fault(), 0);
    }

    private static void faultOfAFullPage() {
        due.is("w0s0f1w0s0f1w0s0", page("w0s0f1w0s0f1w0s0").fault(), 6);
        due.is("w0s0f0w0s0f1w0s0", page("w0s0f0w0s0f1w0s0").fault(), 5);
        due.is("16 of s", page("ssssssssssssssss").fault(), 0);
    }

    private static void faultIsTheFirstOfMany() {
        String right = "w0s0f1";
        for (int place = 0; place < 6; place++) {
            String text = right.substring(0, place) + "~~~~~~".substring(place);
            due.is("fault of " + text, page(text).fault(), place);
        }
    }

    private static void faultOfABeginningIsItsLength() {
        String right = "wlspf9";
        for (int length = 0; length <= 6; length++) {
            KneelingStones x = page(right.substring(0, length));
            due.is("fault of " + length, x.fault(), length);
            due.is("letters stay", x.count(9), length);
        }
    }

    // ---- 5 custom

    private static void customsHave4Or6Letters() {
        String right = "w0s6f3";
        for (int length = 0; length <= 6; length++) {
            KneelingStones x = page(right.substring(0, length));
            if (length == 4 || length == 6) due.is("custom of " + length, x.custom(), 0);
            else due.refuses(x, "custom of " + length, x::custom, STATE);
            due.is("letters then", x.count(9), length == 4 || length == 6 ? 0 : length);
        }
        KneelingStones x = page("w0s6f3f");
        due.refuses(x, "custom of 7", x::custom, STATE);
        KneelingStones y = page("w0s6w0s6");
        due.refuses(y, "custom of 8", y::custom, STATE);
        KneelingStones z = page("w0s6f3w0s6f3w0s6");
        due.refuses(z, "custom of 16", z::custom, STATE);
    }

    private static void oneWrongLetterMakesNoCustom() {
        String right = "w0s6f3";
        for (int place = 0; place < 6; place++) {
            for (char wrong : new char[] {'W', '7', 'f', '0', (char) 1, '~'}) {
                if (wrong == right.charAt(place) || wrong == '0' && (place == 1 || place == 3) || wrong == '7' && place == 5) continue;
                KneelingStones x = page(right.substring(0, place) + wrong + right.substring(place + 1));
                due.refuses(x, "custom with " + (int) wrong + " at " + place, x::custom, STATE);
            }
        }
    }

    private static void aCustomMadeLeavesThePageEmpty() {
        KneelingStones x = page("w0s6f3");
        due.is("custom", x.custom(), 0);
        due.is("letters", x.count(9), 0);
        due.refuses(x, "custom of the empty page", x::custom, STATE);
        due.is("new letters", Due.write(x, "w1s1"), 4);
        due.is("custom of new ones", x.custom(), 1);
        due.is("without EVERY of the old", x.customTold(1, 2), 0);
    }

    private static void theFourthCustomThenFull() {
        KneelingStones x = Moors.by("w0s0", "w1s1", "w2s2");
        due.is("the fourth", Due.custom(x, "w3s3"), 3);
        Due.write(x, "w4s4");
        due.refuses(x, "the fifth", x::custom, FULL);
        due.is("its letters stay", x.count(9), 4);
        due.is("the fourth is as it was", x.customTold(3, 0), 3);
    }

    private static void customStateIsToldAheadOfFull() {
        KneelingStones x = Moors.by("w0s0", "w1s1", "w2s2", "w3s3");
        due.refuses(x, "of none", x::custom, STATE);
        Due.write(x, "w4s7");
        due.refuses(x, "of a wrong one", x::custom, STATE);
    }

    // ---- 6 customTold

    private static void eachRuleIsTold() {
        for (int rule = 0; rule <= 10; rule++) {
            for (int other = 0; other <= 10; other++) {
                KneelingStones x = Moors.by("w" + RULES.charAt(rule) + "s" + RULES.charAt(other));
                due.is("behind w", x.customTold(0, 0), rule);
                due.is("behind s", x.customTold(0, 1), other);
                due.is("EVERY", x.customTold(0, 2), 0);
            }
        }
    }

    private static void everyIsTold() {
        for (int every = 1; every <= 9; every++) {
            due.is("EVERY", Moors.by("wnsmf" + every).customTold(0, 2), every);
        }
    }

    private static void customTold0To3() {
        KneelingStones x = Moors.empty();
        for (int custom = 0; custom < 4; custom++) {
            int next = custom;
            due.refuses(x, "of the next one, " + custom, () -> x.customTold(next, 0), UNKNOWN);
            Due.custom(x, "w" + custom + "s6");
            due.is("of " + custom, x.customTold(custom, 0), custom);
        }
        due.refuses(x, "of 4", () -> x.customTold(4, 0), UNKNOWN);
        for (int number : Moors.NO_NUMBERS) due.refuses(x, "of " + number, () -> x.customTold(number, 0), UNKNOWN);
    }

    private static void customToldWhat0To2() {
        KneelingStones x = Moors.by("w3s4f5");
        for (int what = 0; what <= 2; what++) due.is("what " + what, x.customTold(0, what), 3 + what);
        for (int what : new int[] {-1, 3, Moors.LEAST, Moors.MOST}) {
            due.refuses(x, "what " + what, () -> x.customTold(0, what), OUTSIDE);
        }
    }

    private static void customToldUnknownIsToldAheadOfOutside() {
        KneelingStones x = Moors.by("w3s4f5");
        due.refuses(x, "of 1, what 3", () -> x.customTold(1, 3), UNKNOWN);
        due.refuses(x, "of -1, what -1", () -> x.customTold(-1, -1), UNKNOWN);
    }
}
