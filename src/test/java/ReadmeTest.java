import java.lang.reflect.Method;
import java.nio.file.Files;
import java.nio.file.Path;
import java.util.HashMap;
import java.util.Map;
import java.util.regex.Matcher;
import java.util.regex.Pattern;

/** The calls of README.md's example answer what stands behind them. */
public final class ReadmeTest {
    private static final Pattern CALL = Pattern.compile("(?:int (\\w+) = )?x\\.(\\w+)\\(([^)]*)\\); +// (-?\\d+): .+");
    private static final Due due = new Due();

    public static void main(String[] args) throws Exception {
        KneelingStones x = new KneelingStones();
        Map<String, Long> named = new HashMap<>();
        String[] lines = example().split("\n");
        due.holds("the first line makes an object", lines[0].equals("KneelingStones x = new KneelingStones();"));
        for (int i = 1; i < lines.length; i++) {
            Matcher call = CALL.matcher(lines[i]);
            boolean isCall = call.matches();
            due.holds("a call and its answer: " + lines[i], isCall);
            if (!isCall) continue;
            long answer = answer(x, call.group(2), call.group(3), named);
            due.is(lines[i], answer, Long.parseLong(call.group(4)));
            if (call.group(1) != null) named.put(call.group(1), answer);
        }
        due.end("ReadmeTest");
    }

    private static String example() throws Exception {
        String text = Files.readString(Path.of("README.md"));
        String begin = "```java\n";
        int from = text.indexOf(begin) + begin.length();
        return text.substring(from, text.indexOf("```", from)).strip();
    }

    private static long answer(KneelingStones x, String name, String told, Map<String, Long> named) throws Exception {
        String[] words = told.isEmpty() ? new String[0] : told.split(", ");
        Object[] values = new Object[words.length];
        Method method = methodOf(name);
        for (int i = 0; i < words.length; i++) {
            long value = named.containsKey(words[i]) ? named.get(words[i]) : number(words[i]);
            if (method.getParameterTypes()[i] == long.class) values[i] = value;
            else values[i] = (int) value;
        }
        return ((Number) method.invoke(x, values)).longValue();
    }

    private static long number(String word) {
        return Long.decode(word.endsWith("L") ? word.substring(0, word.length() - 1) : word);
    }

    private static Method methodOf(String name) {
        for (Method m : KneelingStones.class.getMethods()) if (m.getName().equals(name)) return m;
        throw new IllegalStateException("no call " + name);
    }
}
