import java.lang.reflect.Constructor;
import java.lang.reflect.Field;
import java.lang.reflect.Method;
import java.lang.reflect.Modifier;
import java.nio.file.Files;
import java.nio.file.Path;
import java.util.ArrayList;
import java.util.List;
import java.util.Set;
import java.util.TreeSet;
import java.util.regex.Matcher;
import java.util.regex.Pattern;

/**
 * The public face, and those rules of ../shared/LANGUAGE.md that can be read off the source or
 * the class: a landing outside them is sent back.
 */
public final class FaceTests {
    private static int wrong = 0;

    private static final String[] FACE = {
        "int star(int)", "int stars(int,int,int)", "int thrower(int)", "int ship(int)",
        "int mend(int,int,int)", "int of(int,int)", "int feed(int)", "int law()", "int odds(int)",
        "int flung(int,int)", "long likely(int,int)", "long mean(int,int)", "int dealt(int)",
        "int drops(int)", "int upBy(int)", "int lies(int)", "int walk(int,int,int)", "int steer()",
        "int fewest(int)", "int home(int,int)", "int pattern(int,int)", "int byTurns(int,int)",
        "int drawn(int,int,int,int)", "int fling(int)", "int pass(int)", "int pocket(int)",
        "int led(int)", "int image()", "int back()", "int undo()", "int redo()", "int body(int)",
        "int act(int,int,int)", "int trace(int)", "int keep(int,int)", "int row(int,int,int)",
        "int put(int,int,long)", "long element(int,int)", "int shift(int,int,int,int,int)",
        "int taken(int,int)", "int count(int)"};

    private static void holds(String what, boolean is) {
        if (is) return;
        wrong++;
        System.out.println("the face: " + what);
    }

    private static String told(Method m) {
        StringBuilder b = new StringBuilder(m.getReturnType() + " " + m.getName() + "(");
        for (Class<?> p : m.getParameterTypes()) b.append(b.charAt(b.length() - 1) == '(' ? "" : ",").append(p);
        return b.append(')').toString();
    }

    private static void face() throws Exception {
        Class<?> c = StarfishWatch.class;
        holds("public and final", Modifier.isPublic(c.getModifiers()) && Modifier.isFinal(c.getModifiers()));
        Set<String> due = new TreeSet<>(List.of(FACE)), are = new TreeSet<>(), names = new TreeSet<>();
        for (Method m : c.getDeclaredMethods()) {
            if (Modifier.isPrivate(m.getModifiers())) continue;
            are.add(told(m));
            names.add(m.getName());
            holds(m + " is static", !Modifier.isStatic(m.getModifiers()));
        }
        holds("methods are " + are, due.equals(are));
        List<Class<?>> all = new ArrayList<>(List.of(c.getDeclaredClasses()));
        all.add(c);
        holds("more than twelve classes", all.size() <= 12);
        for (Class<?> k : all) {
            for (Method m : k.getDeclaredMethods()) {
                holds(m + " bears a public one's name", k == c && !Modifier.isPrivate(m.getModifiers()) || !names.contains(m.getName()));
                holds(m + " takes more than seven", m.getParameterCount() <= 7);
            }
            if (k != c) holds(k + " is not static, or public", Modifier.isStatic(k.getModifiers()) && !Modifier.isPublic(k.getModifiers()));
        }
        for (Constructor<?> k : c.getDeclaredConstructors()) {
            holds("the constructor", Modifier.isPublic(k.getModifiers()) && k.getParameterCount() == 0);
        }
        Set<String> constants = new TreeSet<>();
        for (Field f : c.getDeclaredFields()) {
            if (Modifier.isPrivate(f.getModifiers())) continue;
            holds(f + " is no constant", Modifier.isStatic(f.getModifiers()) && Modifier.isFinal(f.getModifiers()));
            constants.add(f.getName() + " " + f.getInt(null));
        }
        holds("constants are " + constants, constants.equals(Set.of("BAD -1", "NOT -2", "FULL -3", "STATE -5", "VOID -2000000000")));
    }

    /** Comments and texts taken out, so that words in them are not looked at. */
    private static String bare(String source) {
        return source.replaceAll("(?s)/\\*.*?\\*/", " ").replaceAll("//[^\\n]*", " ")
            .replaceAll("'(\\\\.|[^'])'", "' '").replaceAll("\"(\\\\.|[^\"])*\"", "\"\"");
    }

    private static void source(String path) throws Exception {
        String text = Files.readString(Path.of(path));
        for (char c : text.toCharArray()) holds("a sign above 127 in the source", c < 128);
        String bare = bare(text);
        String forbidden = "\\b(throw|try|catch|finally|synchronized|assert|import|package|protected|volatile|transient"
            + "|native|strictfp|Object|System\\.(?!arraycopy\\b)\\w+|\\w+Exact|equals|hashCode|toString|Random|Thread)\\b|->|::|@";
        Matcher m = Pattern.compile(forbidden).matcher(bare);
        while (m.find()) holds("outside LANGUAGE.md: " + m.group(), false);
        // What is called of the library stands in a short list.
        m = Pattern.compile("\\b(Integer|Long|Math|Arrays|System)\\.(\\w+)").matcher(bare);
        while (m.find()) {
            holds("called: " + m.group(), Set.of("bitCount", "max", "min", "arraycopy").contains(m.group(2)));
        }
    }

    public static void main(String[] args) throws Exception {
        face();
        source(args.length > 0 ? args[0] : "src/main/java/StarfishWatch.java");
        System.out.println(wrong == 0 ? "the face is as due" : wrong + " rules are broken");
        if (wrong != 0) System.exit(1);
    }
}
