import java.lang.reflect.Constructor;
import java.lang.reflect.Field;
import java.lang.reflect.Method;
import java.lang.reflect.Modifier;
import java.nio.file.Files;
import java.nio.file.Path;
import java.util.Set;
import java.util.TreeSet;
import java.util.regex.Matcher;
import java.util.regex.Pattern;

/** The document's face, and what can be seen of the rules of LANGUAGE.md from outside. */
public final class FaceTest {
    private static final Set<String> FACE = Set.of(
        "int pipe(int)", "int sets(int, int)", "int ends(int, int)", "int law(int, int)", "int steady()",
        "int steps(int)", "long node(int, int)", "long all(int)", "long bits(int)", "long lets(int, int, int)",
        "long trial(int, int, int)", "int soonest(int, int, int)", "int best(int, int, int)", "int type(int)",
        "int clear()", "int reads()", "int back()", "int told(int)", "long digest()");
    private static final Set<String> CONSTANTS = Set.of("NONE", "BAD", "NO", "FULL");
    private static final String[] FORBIDDEN = {
        "^package\\b", "^import\\b", "\\btry\\b", "\\bcatch\\b", "\\bfinally\\b", "\\bsynchronized\\b", "\\bassert\\b",
        "->", "::", "\\bMath\\.", "\\bDouble\\b", "\\bFloat\\b", "\\bthrow\\b", "Exact\\b", "\\bvar\\b", "static \\{",
        "static final (double|float)\\b", "\\bSystem\\.(?!arraycopy)", "\\bequals\\b", "\\bhashCode\\b", "\\btoString\\b"};
    private static int wrong = 0;

    private static void say(boolean good, String what) {
        if (!good) {
            wrong++;
            System.out.println(what);
        }
    }

    private static String signature(Method m) {
        StringBuilder text = new StringBuilder(m.getReturnType().getName() + " " + m.getName() + "(");
        for (Class<?> c : m.getParameterTypes()) {
            text.append(text.charAt(text.length() - 1) == '(' ? "" : ", ").append(c.getName());
        }
        return text.append(")").toString();
    }

    private static void face() {
        int kind = SurgeLine.class.getModifiers();
        say(Modifier.isPublic(kind) && Modifier.isFinal(kind), "the class is not public and final");
        Set<String> open = new TreeSet<>();
        for (Method m : SurgeLine.class.getDeclaredMethods()) {
            if (Modifier.isPublic(m.getModifiers())) {
                open.add(signature(m));
                say(!Modifier.isStatic(m.getModifiers()) && m.getExceptionTypes().length == 0, "not plain: " + m);
            } else {
                say(Modifier.isPrivate(m.getModifiers()), "neither public nor private: " + m);
            }
        }
        say(open.equals(new TreeSet<>(FACE)), "the public methods are " + open);
        Constructor<?>[] constructors = SurgeLine.class.getDeclaredConstructors();
        say(constructors.length == 1 && Modifier.isPublic(constructors[0].getModifiers())
            && constructors[0].getParameterCount() == 0, "not the one constructor");
        for (Field f : SurgeLine.class.getDeclaredFields()) {
            boolean named = CONSTANTS.contains(f.getName()) && Modifier.isPublic(f.getModifiers()) && f.getType() == int.class;
            say(named || Modifier.isPrivate(f.getModifiers()), "neither a constant of the face nor private: " + f);
            stateless(f);
        }
    }

    private static void stateless(Field f) {
        say(!Modifier.isStatic(f.getModifiers()) || Modifier.isFinal(f.getModifiers()), "static but not final: " + f);
    }

    private static void nested() {
        Set<String> names = new TreeSet<>();
        for (Method m : SurgeLine.class.getDeclaredMethods()) {
            if (Modifier.isPublic(m.getModifiers())) names.add(m.getName());
        }
        for (Method m : SurgeLine.class.getDeclaredMethods()) {
            say(Modifier.isPublic(m.getModifiers()) || !names.contains(m.getName()), "bears a public name: " + m);
        }
        for (Class<?> c : SurgeLine.class.getDeclaredClasses()) {
            int kind = c.getModifiers();
            say(Modifier.isStatic(kind) && !Modifier.isPublic(kind) && !Modifier.isProtected(kind), "not as rule 1: " + c);
            for (Method m : c.getDeclaredMethods()) say(!names.contains(m.getName()), "bears a public name: " + m);
            for (Field f : c.getDeclaredFields()) stateless(f);
        }
    }

    private static void source() throws Exception {
        String text = Files.readString(Path.of("src/main/java/SurgeLine.java"));
        String code = text.replaceAll("(?s)/\\*.*?\\*/", "").replaceAll("//[^\n]*", "");
        for (String word : FORBIDDEN) {
            Matcher m = Pattern.compile(word, Pattern.MULTILINE).matcher(code);
            say(!m.find(), "the program has what the rules, or its own plainness, leave out: " + word);
        }
        say(text.chars().allMatch(c -> c == '\n' || c >= 32 && c < 127), "the program has a sign beyond 32 to 126");
    }

    public static void main(String[] args) throws Exception {
        face();
        nested();
        source();
        System.out.println(wrong == 0 ? "the face is as told" : wrong + " things are not as told");
        if (wrong != 0) {
            System.exit(1);
        }
    }
}
