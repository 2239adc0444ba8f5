/** What the tests share: they count what was asked and print each answer that is not the one that is due. */
final class Due {
    private int asked;
    private int wrong;

    void is(String call, long got, long want) {
        asked++;
        if (got == want) return;
        wrong++;
        if (wrong <= 50) System.out.println(call + " answered " + got + ", due is " + want);
    }

    void holds(String what, boolean so) {
        is(what, so ? 1 : 0, 1);
    }

    void end(String test) {
        System.out.println(test + ": " + (asked - wrong) + " answers as due, " + wrong + " not");
        if (wrong != 0 || asked == 0) System.exit(1);
    }

    /** The letters of a text as letters() takes them, up to eight. */
    static long codes(String text) {
        long w = 0;
        for (int i = text.length() - 1; i >= 0; i--) w = w << 8 | text.charAt(i);
        return w;
    }

    static int write(KneelingStones x, String text) {
        int has = 0;
        for (int i = 0; i < text.length(); i += 8) {
            has = x.letters(codes(text.substring(i, Math.min(text.length(), i + 8))));
        }
        return has;
    }

    static int custom(KneelingStones x, String text) {
        x.blank();
        write(x, text);
        return x.custom();
    }
}
