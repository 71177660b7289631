import java.lang.reflect.Constructor;
import java.lang.reflect.Field;
import java.lang.reflect.Method;
import java.lang.reflect.Modifier;
import java.nio.file.Files;
import java.nio.file.Path;
import java.util.Set;
import java.util.TreeSet;
import java.util.regex.Matcher;
import java.util.regex.Pattern;

/** The face is the document's and no more, and the source keeps to what LANGUAGE.md lets be seen. */
public final class FaceTest {
    private static final Set<String> METHODS = Set.of("tune 2", "note 4", "stop 3", "mark 3", "cut 1", "of 3",
            "hold 3", "hard 1", "finger 3", "shifts 1", "bow 2", "stroke 3", "strokes 3", "alike 4", "union 1",
            "many 1");
    private static final Set<String> CONSTANTS = Set.of("NUMBER", "FULL", "NONE", "MARKS");
    private static int wrong = 0;

    private static void check(boolean holds, String what) {
        if (!holds) {
            wrong++;
            System.out.println("not so: " + what);
        }
    }

    public static void main(String[] args) throws Exception {
        face();
        inside();
        source();
        System.out.println(wrong == 0 ? "the face is as due" : wrong + " things are not as due");
        if (wrong != 0) {
            System.exit(1);
        }
    }

    private static void face() {
        Class<?> face = FourStrings.class;
        check(Modifier.isPublic(face.getModifiers()) && Modifier.isFinal(face.getModifiers()), "public final");
        Set<String> methods = new TreeSet<>();
        Set<String> names = new TreeSet<>();
        for (Method m : face.getDeclaredMethods()) {
            if (Modifier.isPublic(m.getModifiers())) {
                methods.add(m.getName() + " " + m.getParameterCount());
                names.add(m.getName());
                check(m.getReturnType() == int.class && !Modifier.isStatic(m.getModifiers()), m.toString());
            }
        }
        check(methods.equals(METHODS), "methods " + methods);
        for (Method m : face.getDeclaredMethods()) {
            int how = m.getModifiers();
            check(Modifier.isPublic(how) || Modifier.isPrivate(how) && !names.contains(m.getName()), m.toString());
            check(m.getParameterCount() <= 7, "few parameters: " + m);
        }
        Set<String> constants = new TreeSet<>();
        for (Field f : face.getDeclaredFields()) {
            int how = f.getModifiers();
            check(Modifier.isFinal(how) && (Modifier.isPublic(how) || Modifier.isPrivate(how)), f.toString());
            if (Modifier.isPublic(how)) {
                check(Modifier.isStatic(how) && f.getType() == int.class, f.toString());
                constants.add(f.getName());
            }
        }
        check(constants.equals(CONSTANTS), "constants " + constants);
        Constructor<?>[] made = face.getDeclaredConstructors();
        check(made.length == 1 && made[0].getParameterCount() == 0 && Modifier.isPublic(made[0].getModifiers()),
                "one public constructor");
    }

    private static void inside() {
        for (Class<?> c : FourStrings.class.getDeclaredClasses()) {
            check(Modifier.isStatic(c.getModifiers()), c + " is static");
            check(!Modifier.isPublic(c.getModifiers()) && !Modifier.isProtected(c.getModifiers()), c + " is inside");
            int fields = 0;
            for (Field f : c.getDeclaredFields()) {
                boolean isStatic = Modifier.isStatic(f.getModifiers());
                check(!isStatic || Modifier.isFinal(f.getModifiers()), f + " is final");
                fields += isStatic ? 0 : 1;
            }
            check(fields <= 20, c + " has few fields");
            for (Method m : c.getDeclaredMethods()) {
                check(METHODS.stream().noneMatch(x -> x.startsWith(m.getName() + " ")), m + " has a name of its own");
                check(m.getParameterCount() <= 7, "few parameters: " + m);
            }
        }
    }

    private static void source() throws Exception {
        String path = System.getenv("FOUR_STRINGS_SOURCE");
        Path file = Path.of(path == null ? "src/main/java/FourStrings.java" : path);
        String text = Files.readString(file);
        String code = text.replaceAll("(?s)/\\*.*?\\*/", " ").replaceAll("//[^\n]*", " ");
        Matcher m = Pattern.compile("\\b(import|package|throw|throws|try|catch|synchronized|assert|Object|"
                + "System|Thread|Random|double|float)\\b|->|::|\\w+Exact\\b").matcher(code);
        while (m.find()) {
            check(false, "the source has no " + m.group());
        }
        check(text.chars().allMatch(c -> c == '\n' || c >= 32 && c < 127), "plain signs alone");
    }
}
