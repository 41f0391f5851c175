import java.io.IOException;
import java.lang.reflect.Field;
import java.lang.reflect.Method;
import java.lang.reflect.Modifier;
import java.nio.charset.StandardCharsets;
import java.nio.file.Files;
import java.nio.file.Path;
import java.util.ArrayList;
import java.util.List;
import java.util.regex.Matcher;
import java.util.regex.Pattern;

/** The rules of LANGUAGE.md that a look at the source or at the classes can tell; it runs in the project's folder. */
public final class LanguageTest {
    private static final Path SOURCE = Path.of("src", "main", "java", "DropBoxLoom.java");
    private static final String[] FORBIDDEN = {
        "\\b(throw|throws|try|catch|finally|synchronized|assert|import|package|protected)\\b", "->", "::", "Exact\\b",
        "\"", "\\b(equals|hashCode|toString)\\b", "\\b(Object|Thread|Runtime|Random|Class)\\b",
        "\\bSystem\\.(?!arraycopy\\()", "\\bMath\\.(?!(abs|max|min|floorMod|floorDiv)\\()"};
    private static final int LONGEST_METHOD = 60;

    public static void main(String[] args) throws IOException {
        String source = new String(Files.readAllBytes(SOURCE), StandardCharsets.UTF_8);
        String code = source.replaceAll("(?s)/\\*.*?\\*/", "").replaceAll("//[^\n]*", "");
        forbiddenWords(code);
        lengthOfMethods(code);
        savedStatesAreLookedAt(code);
        List<Class<?>> classes = new ArrayList<>(List.of(DropBoxLoom.class.getDeclaredClasses()));
        Check.holds("at most 12 classes", classes.size() < 12);
        for (Class<?> inside : classes) {
            Check.holds(inside + " is static", Modifier.isStatic(inside.getModifiers()));
            Check.due("classes inside " + inside, inside.getDeclaredClasses().length, 0);
        }
        classes.add(DropBoxLoom.class);
        for (Class<?> one : classes) {
            fields(one);
            methods(one);
        }
        Check.end("LanguageTest");
    }

    private static void forbiddenWords(String code) {
        for (String forbidden : FORBIDDEN) {
            Matcher found = Pattern.compile(forbidden).matcher(code);
            Check.holds("no " + forbidden, !found.find());
        }
        Check.holds("signs 1 to 127 alone", code.chars().allMatch(sign -> sign > 0 && sign < 128));
    }

    /** A method ends with the brace that stands as far in as its first line. */
    private static void lengthOfMethods(String code) {
        Matcher method = Pattern.compile(
                "(?m)^( {4}| {8})(?! |if |for |while |switch )[\\w\\[\\] ]+\\([^;{]*\\) \\{$").matcher(code);
        int methods = 0;
        while (method.find()) {
            int end = code.indexOf("\n" + method.group(1) + "}\n", method.start());
            long lines = code.substring(method.start(), end).lines().count() + 1;
            Check.holds(method.group().trim() + " has " + lines + " lines", lines <= LONGEST_METHOD);
            methods++;
        }
        Check.holds("methods are found", methods >= 30);
    }

    /** The saved states are the one row of references: each one is compared with null before it is used. */
    private static void savedStatesAreLookedAt(String code) {
        Check.due("rows of references", count("\\b[A-Z]\\w+\\[\\] \\w+", code), 1);
        int made = count("\\bsaved\\[\\w+\\] = new Loom\\(\\);", code);
        int lookedAt = count("\\bLoom (\\w+) = saved\\[[^;]+;\n +if \\([^\n]*\\b\\1 [!=]= null\\)", code);
        Check.due("uses of the saved states", count("\\bsaved\\[", code), made + lookedAt);
    }

    private static int count(String pattern, String code) {
        Matcher found = Pattern.compile(pattern).matcher(code);
        int number = 0;
        while (found.find()) {
            number++;
        }
        return number;
    }

    private static void fields(Class<?> one) {
        int own = 0;
        for (Field field : one.getDeclaredFields()) {
            if (Modifier.isStatic(field.getModifiers())) {
                Check.holds(field + " is final", Modifier.isFinal(field.getModifiers()));
                Check.holds(field + " is a number", field.getType() == int.class || field.getType() == long.class);
            } else {
                own++;
            }
        }
        Check.holds(one + " has at most 20 fields", own <= 20);
    }

    private static void methods(Class<?> one) {
        for (Method method : one.getDeclaredMethods()) {
            Check.holds(method + " takes at most 7", method.getParameterCount() <= 7);
        }
    }
}
