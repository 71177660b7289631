import java.lang.reflect.Method;
import java.lang.reflect.Modifier;
import java.nio.file.Files;
import java.nio.file.Path;
import java.util.Set;
import java.util.TreeSet;
import java.util.regex.Matcher;
import java.util.regex.Pattern;

/** The example in README.md, run from its text: each call answers what is written behind it. */
public final class ReadmeTest {
    private static final Pattern BLOCK = Pattern.compile("(?s)```java\n(.*?)```");
    private static final Pattern CALL = Pattern.compile("desk\\.(\\w+)\\(([-\\d, ]*)\\); *// (-?\\d+): ");
    private static int wrong = 0;

    private static void check(boolean holds, String what) {
        if (!holds) {
            wrong++;
            System.out.println("not so: " + what);
        }
    }

    public static void main(String[] args) throws Exception {
        String path = System.getenv("FOUR_STRINGS_README");
        Matcher block = BLOCK.matcher(Files.readString(Path.of(path == null ? "README.md" : path)));
        check(block.find(), "README.md has an example");
        Set<String> shown = wrong == 0 ? run(block.group(1)) : Set.of();
        for (Method m : FourStrings.class.getDeclaredMethods()) {
            if (Modifier.isPublic(m.getModifiers())) {
                check(shown.contains(m.getName()), "README.md shows " + m.getName());
            }
        }
        System.out.println(wrong == 0 ? "README.md is as due" : wrong + " things are not as due");
        if (wrong != 0) {
            System.exit(1);
        }
    }

    /** Runs each line of the example that has a call: the names of those called. */
    private static Set<String> run(String example) throws Exception {
        Set<String> shown = new TreeSet<>();
        FourStrings desk = new FourStrings();
        for (String line : example.split("\n")) {
            if (line.contains("desk.")) {
                Matcher call = CALL.matcher(line);
                boolean isRead = call.lookingAt();
                check(isRead, "this is a call and its answer: " + line);
                if (isRead) {
                    int got = answer(desk, call.group(1), call.group(2).split(", *"));
                    check(got == Integer.parseInt(call.group(3)), line + " (answered " + got + ")");
                    shown.add(call.group(1));
                }
            }
        }
        return shown;
    }

    private static int answer(FourStrings desk, String name, String[] numbers) throws Exception {
        Class<?>[] types = new Class<?>[numbers.length];
        Object[] values = new Object[numbers.length];
        for (int i = 0; i < numbers.length; i++) {
            types[i] = int.class;
            values[i] = Integer.valueOf(numbers[i]);
        }
        return (Integer) FourStrings.class.getMethod(name, types).invoke(desk, values);
    }
}
