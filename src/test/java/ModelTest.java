import java.util.Random;

/** Runs of calls, drawn by fixed seeds, asked of the program and of the Model. */
public final class ModelTest {
    private static final Due due = new Due();
    private static final String[] TEXTS = {"w", "s", "f", "0", "3", "6", "m", "l", "p", "n", "9", "w4s", "~", "f2", "7"};
    private static final int[] ODD = {-1, 7, 61, 10, Integer.MIN_VALUE, Integer.MAX_VALUE, -55, 217, 100000};

    private final Random random;
    private final KneelingStones x = new KneelingStones();
    private final Model m = new Model();
    private final String run;

    private ModelTest(int seed) {
        random = new Random(seed);
        run = "run " + seed + ": ";
    }

    public static void main(String[] args) {
        for (int seed = 0; seed < 240; seed++) new ModelTest(seed).go(seed);
        due.end("ModelTest");
    }

    private void go(int seed) {
        if (seed % 8 != 0) settle(seed);
        for (int i = 0; i < 380; i++) {
            call(random.nextInt(31));
            if (i % 20 == 0) is("digest()", x.digest(), m.digest());
        }
    }

    private void is(String call, long got, long want) {
        due.is(run + call, got, want);
    }

    private int upTo(int most) {
        return random.nextInt(most + 1);
    }

    private int from(int least, int most) {
        return random.nextInt(20) == 0 ? ODD[random.nextInt(ODD.length)] : least + random.nextInt(most - least + 1);
    }

    private void settle(int seed) {
        int many = 1 + upTo(5);
        for (int i = 0; i < many; i++) newParish(seed % 3 == 0 ? 9 : 3);
        for (int i = 1 + upTo(3); i > 0; i--) newCustom();
        for (int i = 0; i < 7; i++) {
            int pile = 1 + upTo(seed % 5 == 0 ? 59 : 20);
            is("lay(" + i + ", " + pile + ")", x.lay(i, pile), m.lay(i, pile));
        }
    }

    private void newParish(int most) {
        int kind = upTo(3);
        int n = kind == 0 ? 0 : kind == 1 ? 2 + upTo(2) : upTo(6);
        int walkers = 1 + upTo(most - 1);
        int wish = upTo(10);
        int sin = upTo(10);
        is("parish of kind " + kind, x.parish(kind, n, walkers, wish, sin), m.parish(kind, n, walkers, wish, sin));
    }

    private void newCustom() {
        String rules = "0123456mlpn";
        String text = "w" + rules.charAt(upTo(10)) + "s" + rules.charAt(upTo(10));
        if (random.nextBoolean()) text += "f" + (1 + upTo(8));
        is("blank()", x.blank(), m.blank());
        is("letters of " + text, x.letters(Due.codes(text)), m.letters(Due.codes(text)));
        is("fault()", x.fault(), m.fault());
        is("custom of " + text, x.custom(), m.custom());
    }

    private void call(int which) {
        if (which < 13) callOfState(which);
        else if (which < 21) callOfCairns(which);
        else callOfWouldBe(which);
    }

    private void callOfState(int which) {
        int a = from(0, 5);
        int b = from(0, 5);
        int v = from(0, 10);
        switch (which) {
            case 0: case 1: {
                String text = TEXTS[random.nextInt(TEXTS.length)];
                long w = random.nextInt(30) == 0 ? random.nextLong() : Due.codes(text);
                is("letters(" + w + ")", x.letters(w), m.letters(w));
                break;
            }
            case 2: is("fault()", x.fault(), m.fault()); break;
            case 3: is("custom()", x.custom(), m.custom()); break;
            case 4: if (random.nextInt(4) == 0) is("blank()", x.blank(), m.blank()); break;
            case 5: is("customTold(" + a + ", " + b + ")", x.customTold(a, b), m.customTold(a, b)); break;
            case 6: {
                int n = from(0, 6);
                int sin = from(0, 10);
                is("parish()", x.parish(a, n, b, v, sin), m.parish(a, n, b, v, sin));
                break;
            }
            case 7: is("as(" + a + ", " + b + ")", x.as(a, b), m.as(a, b)); break;
            case 8: is("about(" + a + ", " + b + ")", x.about(a, b), m.about(a, b)); break;
            case 9: is("change(" + a + ", " + b + ", " + v + ")", x.change(a, b, v), m.change(a, b, v)); break;
            case 10: if (random.nextInt(3) == 0) is("image()", x.image(), m.image()); break;
            case 11: if (random.nextInt(3) == 0) is("restore()", x.restore(), m.restore()); break;
            default: is("count(" + v + ")", x.count(v), m.count(v)); break;
        }
    }

    private void callOfCairns(int which) {
        int cairn = from(0, 6);
        int many = from(1, random.nextBoolean() ? 60 : 5);
        int custom = from(0, 3);
        switch (which) {
            case 13: is("lay(" + cairn + ", " + many + ")", x.lay(cairn, many), m.lay(cairn, many)); break;
            case 14: is("take(" + cairn + ", " + many + ")", x.take(cairn, many), m.take(cairn, many)); break;
            case 15: is("height(" + cairn + ")", x.height(cairn), m.height(cairn)); break;
            case 16: is("mark(" + cairn + ", " + many + ")", x.mark(cairn, many), m.mark(cairn, many)); break;
            case 17: is("dated(" + cairn + ", " + many + ")", x.dated(cairn, many), m.dated(cairn, many)); break;
            case 18: {
                int v = random.nextInt();
                is("seed(" + v + ")", x.seed(v), m.seed(v));
                break;
            }
            case 19: is("weeks(" + custom + ", " + many + ")", x.weeks(custom, many), m.weeks(custom, many)); break;
            default: is("order(" + cairn + ")", x.order(cairn), m.order(cairn)); break;
        }
    }

    private void callOfWouldBe(int which) {
        int custom = from(0, 3);
        int other = from(0, 3);
        int cairn = from(0, 6);
        int many = from(0, 60);
        int parish = from(0, 5);
        int few = from(0, 4);
        int sins = from(0, 4);
        int net = from(-9, 20);
        int part = random.nextInt(30) == 0 ? 2 : upTo(1);
        String args = "(" + custom + ", " + cairn + ", " + many + ")";
        String ofNet = "(" + parish + ", " + net + ", " + part + ")";
        switch (which) {
            case 21: is("would" + args, x.would(custom, cairn, many), m.would(custom, cairn, many)); break;
            case 22: is("odds()", x.odds(parish, few, sins, part), m.odds(parish, few, sins, part)); break;
            case 23: is("chance" + ofNet, x.chance(parish, net, part), m.chance(parish, net, part)); break;
            case 24: is("sinned" + ofNet, x.sinned(parish, net, part), m.sinned(parish, net, part)); break;
            case 25: {
                int far = random.nextInt(6) == 0 ? from(-54, 216) : net;
                for (int what = 0; what < 5; what++) {
                    is("bounds(" + far + ", " + what + ")", x.bounds(far, what), m.bounds(far, what));
                }
                break;
            }
            case 26: is("shows" + args, x.shows(custom, cairn, many), m.shows(custom, cairn, many)); break;
            case 27: is("gone(" + custom + ", " + cairn + ")", x.gone(custom, cairn), m.gone(custom, cairn)); break;
            case 28: is("saved" + args, x.saved(custom, cairn, many), m.saved(custom, cairn, many)); break;
            case 29: is("unlike()", x.unlike(custom, other, many), m.unlike(custom, other, many)); break;
            default: is("lie(" + cairn + ")", x.lie(cairn), m.lie(cairn)); break;
        }
    }
}
