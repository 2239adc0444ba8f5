import java.lang.reflect.Constructor;
import java.lang.reflect.Field;
import java.lang.reflect.Method;
import java.lang.reflect.Modifier;
import java.nio.file.Files;
import java.nio.file.Path;
import java.util.ArrayList;
import java.util.List;
import java.util.Set;
import java.util.TreeSet;
import java.util.regex.Matcher;
import java.util.regex.Pattern;

/** The rules of LANGUAGE.md that can be read off the source text and the compiled face. */
public final class LanguageTest {
    private static final Due due = new Due();
    private static final Set<String> FACE = Set.of(
        "int letters(long)", "int blank()", "int fault()", "int custom()", "int customTold(int,int)",
        "int parish(int,int,int,int,int)", "int as(int,int)", "int about(int,int)", "int change(int,int,int)",
        "int lay(int,int)", "int take(int,int)", "int height(int)", "int mark(int,int)", "int dated(int,int)",
        "int seed(int)", "int weeks(int,int)", "int would(int,int,int)", "int order(int)",
        "long odds(int,int,int,int)", "long chance(int,int,int)", "long sinned(int,int,int)", "int bounds(int,int)",
        "int shows(int,int,int)", "int gone(int,int)", "int saved(int,int,int)", "int unlike(int,int,int)",
        "int lie(int)", "int image()", "int restore()", "int count(int)", "long digest()");
    private static final Set<String> CONSTANTS = Set.of("NONE", "UNKNOWN", "OUTSIDE", "STATE", "FULL");

    public static void main(String[] args) throws Exception {
        face();
        classesInside();
        String text = Files.readString(Path.of("src/main/java/KneelingStones.java"));
        for (int i = 0; i < text.length(); i++) due.holds("a sign of 1 to 127 at " + i, text.charAt(i) >= 1 && text.charAt(i) <= 127);
        String code = withoutComments(text);
        library(code);
        words(code);
        methods(code);
        due.end("LanguageTest");
    }

    // Rule 1
    private static void face() {
        Class<?> face = KneelingStones.class;
        due.is("modifiers of the class", face.getModifiers(), Modifier.PUBLIC | Modifier.FINAL);
        Set<String> found = new TreeSet<>();
        Set<String> names = new TreeSet<>();
        for (Method m : face.getDeclaredMethods()) {
            if (Modifier.isPrivate(m.getModifiers()) || m.isSynthetic()) continue;
            due.is("modifiers of " + m.getName(), m.getModifiers(), Modifier.PUBLIC);
            found.add(signature(m));
            names.add(m.getName());
        }
        due.holds("the methods of the face, but " + found, found.equals(FACE));
        for (Method m : face.getDeclaredMethods()) {
            boolean clash = Modifier.isPrivate(m.getModifiers()) && names.contains(m.getName());
            due.holds("no private method bears a public one's name: " + m.getName(), !clash);
        }
        for (Constructor<?> c : face.getDeclaredConstructors()) {
            due.holds("the constructor", c.getModifiers() == Modifier.PUBLIC && c.getParameterCount() == 0);
        }
        for (Field f : face.getDeclaredFields()) {
            boolean constant = CONSTANTS.contains(f.getName());
            due.is("modifiers of " + f.getName() + " as of the face", f.getModifiers() & ~Modifier.FINAL,
                constant ? Modifier.PUBLIC | Modifier.STATIC : f.getModifiers() & Modifier.STATIC | Modifier.PRIVATE);
        }
    }

    private static String signature(Method m) {
        List<String> types = new ArrayList<>();
        for (Class<?> type : m.getParameterTypes()) types.add(type.getName());
        return m.getReturnType().getName() + " " + m.getName() + "(" + String.join(",", types) + ")";
    }

    // Rules 1, 5 and 11
    private static void classesInside() {
        List<Class<?>> all = new ArrayList<>(List.of(KneelingStones.class.getDeclaredClasses()));
        due.holds("some twelve classes", all.size() <= 11);
        for (Class<?> c : all) {
            due.holds(c.getName() + " is private and static", Modifier.isPrivate(c.getModifiers()) && Modifier.isStatic(c.getModifiers()));
        }
        all.add(KneelingStones.class);
        for (Class<?> c : all) {
            int fields = 0;
            for (Field f : c.getDeclaredFields()) {
                if (!Modifier.isStatic(f.getModifiers())) fields++;
                else due.holds("final: " + f, Modifier.isFinal(f.getModifiers()) && f.getType().isPrimitive());
            }
            due.holds("some twenty fields of " + c.getName(), fields <= 20);
            for (Method m : c.getDeclaredMethods()) due.holds("seven parameters at most: " + m, m.getParameterCount() <= 7);
        }
    }

    private static String withoutComments(String text) {
        return text.replaceAll("(?s)/\\*.*?\\*/", "").replaceAll("//[^\n]*", "");
    }

    // Rule 4
    private static void library(String code) {
        Matcher imports = Pattern.compile("import ([^;]+);").matcher(code);
        while (imports.find()) due.holds("import of " + imports.group(1), imports.group(1).equals("java.util.Arrays"));
        Matcher calls = Pattern.compile("\\b(Arrays|System|Math|Integer|Long|String|Object|Thread|Character)\\b(\\.\\w+)?").matcher(code);
        Set<String> allowed = Set.of("Arrays.fill", "System.arraycopy", "Math.min", "Math.abs");
        while (calls.find()) due.holds("library: " + calls.group(), allowed.contains(calls.group()) || calls.group().equals("Arrays"));
    }

    // Rules 2, 6, 10 and 13
    private static void words(String code) {
        String[] none = {"->", "::", "synchronized", "assert", "finally", "try", "catch", "throw", "throws", "static {", "@",
            "\"", "double", "float", "volatile", "record", "sealed", "yield", "var ", "hashCode", "equals", "toString"};
        for (String word : none) {
            boolean letters = word.matches("\\w+");
            Pattern p = Pattern.compile(letters ? "\\b" + word + "\\b" : Pattern.quote(word));
            due.holds("no " + word, !p.matcher(code).find());
        }
    }

    // Rules 9 and 11
    private static void methods(String code) {
        String[] lines = code.split("\n");
        int began = -1;
        int loops = 0;
        for (int i = 0; i < lines.length; i++) {
            String line = lines[i];
            if (line.matches(" {4}( {4})?[\\w\\[\\]. ]+\\(.*\\) \\{")) began = i;
            if (line.matches(" {4}( {4})?\\}") && began >= 0) {
                due.holds("sixty lines at most: " + lines[began].trim(), i - began <= 60);
                began = -1;
            }
            if (line.matches(".*\\b(while|do)\\b.*")) loops++;
            if (line.contains("for (")) due.holds("a loop with a bound: " + line.trim(), line.matches(".*for \\([^;]+;[^;]*[<>]=?[^;]*;[^;]+.*"));
        }
        due.is("loops without a counter", loops, 0);
    }
}
