import java.lang.reflect.Method;
import java.lang.reflect.Modifier;
import java.nio.file.Files;
import java.nio.file.Path;
import java.util.Arrays;
import java.util.regex.Matcher;
import java.util.regex.Pattern;

/**
 * README.md's Java examples: each block is run on a new object, and a call with a number behind its
 * // must answer it. Every call of the face is named on the page.
 */
public final class ReadmeTest {
    private static final Pattern BLOCK = Pattern.compile("(?s)```java\n(.*?)```");
    private static final Pattern TYPED = Pattern.compile("for \\(char c : \"(.*)\"\\.toCharArray\\(\\)\\) line\\.type\\(c\\);");
    private static final Pattern CALL = Pattern.compile("line\\.(\\w+)\\(([-\\d, ]*)\\); +// (-?\\d+): .*");
    private static int wrong = 0;
    private static int calls = 0;

    private static void say(boolean good, String what) {
        if (!good) {
            wrong++;
            System.out.println(what);
        }
    }

    private static long answer(SurgeLine line, String name, String inside) throws Exception {
        Integer[] numbers = inside.isEmpty() ? new Integer[0]
            : Arrays.stream(inside.split(", *")).map(Integer::valueOf).toArray(Integer[]::new);
        Class<?>[] types = new Class<?>[numbers.length];
        Arrays.fill(types, int.class);
        return ((Number) SurgeLine.class.getMethod(name, types).invoke(line, (Object[]) numbers)).longValue();
    }

    private static void runRow(SurgeLine line, String row) throws Exception {
        Matcher typed = TYPED.matcher(row);
        Matcher call = CALL.matcher(row);
        if (typed.matches()) {
            for (char c : typed.group(1).toCharArray()) line.type(c);
        } else if (call.matches()) {
            calls++;
            long got = answer(line, call.group(1), call.group(2));
            say(got == Long.parseLong(call.group(3)), row + "\n  answered " + got);
        } else {
            say(row.startsWith("SurgeLine line = new SurgeLine();"), "a row that this test can not run: " + row);
        }
    }

    public static void main(String[] args) throws Exception {
        String page = Files.readString(Path.of("README.md"));
        Matcher block = BLOCK.matcher(page);
        while (block.find()) {
            SurgeLine line = new SurgeLine();
            for (String row : block.group(1).split("\n")) runRow(line, row);
        }
        say(calls > 0, "no example was run");
        for (Method m : SurgeLine.class.getDeclaredMethods()) {
            say(!Modifier.isPublic(m.getModifiers()) || page.contains("| `" + m.getName() + "("), "not on the page: " + m.getName());
        }
        System.out.println(wrong == 0 ? calls + " examples answer as the page says" : wrong + " things on the page do not hold");
        if (wrong != 0) {
            System.exit(1);
        }
    }
}
