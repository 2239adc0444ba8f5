import java.lang.reflect.InvocationTargetException;
import java.lang.reflect.Method;
import java.lang.reflect.Modifier;
import java.util.Arrays;
import java.util.Comparator;
import java.util.function.LongSupplier;

/** What the tests share: they count what was asked and print each answer that is not the one that is due. */
final class Due {
    private int asked;
    private int wrong;
    private String part = "";

    void is(String call, long got, long want) {
        asked++;
        if (got == want) return;
        wrong++;
        if (wrong <= 50) System.out.println(part + call + " answered " + got + ", due is " + want);
    }

    void holds(String what, boolean so) {
        is(what, so ? 1 : 0, 1);
    }

    /** A call that is refused as told, and changes nothing. */
    void refuses(KneelingStones x, String call, LongSupplier answer, int want) {
        long was = x.digest();
        is(call, answer.getAsLong(), want);
        is("digest() behind the refused " + call, x.digest(), was);
    }

    /** Each method of a class that takes and gives nothing is a test; one that asks nothing fails. */
    void runEach(Class<?> tests) {
        Method[] all = tests.getDeclaredMethods();
        Arrays.sort(all, Comparator.comparing(Method::getName));
        for (Method test : all) {
            boolean isTest = Modifier.isStatic(test.getModifiers()) && !test.isSynthetic()
                && test.getReturnType() == void.class && test.getParameterCount() == 0;
            if (isTest) run(test);
        }
        part = "";
    }

    private void run(Method test) {
        part = test.getName() + ": ";
        int before = asked;
        try {
            test.setAccessible(true);
            test.invoke(null);
        } catch (InvocationTargetException e) {
            holds("it threw " + e.getCause(), false);
        } catch (IllegalAccessException e) {
            holds("it may not be called", false);
        }
        if (asked == before) holds("it asked nothing", false);
    }

    void end(String test) {
        System.out.println(test + ": " + (asked - wrong) + " answers as due, " + wrong + " not");
        if (wrong != 0 || asked == 0) System.exit(1);
    }

    /** The letters of a text as letters() takes them, up to eight. */
    static long codes(String text) {
        long w = 0;
        for (int i = text.length() - 1; i >= 0; i--) w = w << 8 | text.charAt(i);
        return w;
    }

    static int write(KneelingStones x, String text) {
        int has = 0;
        for (int i = 0; i < text.length(); i += 8) {
            has = x.letters(codes(text.substring(i, Math.min(text.length(), i + 8))));
        }
        return has;
    }

    static int custom(KneelingStones x, String text) {
        x.blank();
        write(x, text);
        return x.custom();
    }
}
