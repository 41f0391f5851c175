import java.io.ByteArrayOutputStream;
import java.io.IOException;
import java.io.PrintStream;
import java.lang.reflect.Field;
import java.lang.reflect.Method;
import java.lang.reflect.Modifier;
import java.net.URL;
import java.net.URLClassLoader;
import java.nio.charset.StandardCharsets;
import java.nio.file.Files;
import java.nio.file.Path;
import java.util.List;
import java.util.regex.Matcher;
import java.util.regex.Pattern;
import javax.tools.ToolProvider;

/** What README.md says of the class: its example, its calls, its codes, and what its tests are run by. */
public final class ReadmeTest {
    private static final Path SOURCE = Path.of("src", "main", "java", "DropBoxLoom.java");
    private static final Pattern EXAMPLE = Pattern.compile("(?s)```java\n(.*?)```");
    private static final Pattern ANSWER = Pattern.compile("println\\((.*)\\); *// (-?\\d+)");

    public static void main(String[] args) throws IOException, ReflectiveOperationException {
        String readme = Files.readString(Path.of("README.md"), StandardCharsets.UTF_8);
        Matcher example = EXAMPLE.matcher(readme);
        Check.holds("README.md has an example", example.find());
        answersAsItSays(example.group(1));
        namesEachCallAndCode(readme);
        namesWhatRunsTheTests(readme);
        Check.end("ReadmeTest");
    }

    private static void answersAsItSays(String example) throws IOException, ReflectiveOperationException {
        List<String> printed = printedBy(example).lines().toList();
        int line = 0;
        for (Matcher answer = ANSWER.matcher(example); answer.find(); line++) {
            String got = line < printed.size() ? printed.get(line) : "nothing";
            Check.holds(answer.group() + ", but it prints " + got, got.equals(answer.group(2)));
        }
        Check.due("lines that are printed", printed.size(), line);
    }

    /** Compiles the example as README.md says, and calls its main method. */
    private static String printedBy(String example) throws IOException, ReflectiveOperationException {
        Path folder = Files.createTempDirectory("readme");
        Path file = Files.writeString(folder.resolve("Example.java"), example, StandardCharsets.UTF_8);
        int exit = ToolProvider.getSystemJavaCompiler().run(null, null, null, "-encoding", "UTF-8",
                "-d", folder.toString(), SOURCE.toString(), file.toString());
        Check.due("javac", exit, 0);
        PrintStream out = System.out;
        ByteArrayOutputStream printed = new ByteArrayOutputStream();
        try (URLClassLoader classes = new URLClassLoader(new URL[] {folder.toUri().toURL()}, null)) {
            Method run = classes.loadClass("Example").getMethod("main", String[].class);
            System.setOut(new PrintStream(printed, true, StandardCharsets.UTF_8));
            run.invoke(null, (Object) new String[0]);
        } finally {
            System.setOut(out);
            delete(folder);
        }
        return printed.toString(StandardCharsets.UTF_8);
    }

    private static void delete(Path folder) throws IOException {
        try (var files = Files.list(folder)) {
            for (Path file : files.toList()) {
                Files.delete(file);
            }
        }
        Files.delete(folder);
    }

    private static void namesEachCallAndCode(String readme) throws IllegalAccessException {
        for (Method call : DropBoxLoom.class.getDeclaredMethods()) {
            if (Modifier.isPublic(call.getModifiers())) {
                Check.holds("README.md names " + call.getName(), readme.contains("`" + call.getName() + "`"));
            }
        }
        for (Field code : DropBoxLoom.class.getFields()) {
            String named = "`" + code.getName() + "`( \\||) \\(?" + code.getInt(null) + "\\b";
            Check.holds("README.md names " + code.getName(), Pattern.compile(named).matcher(readme).find());
        }
    }

    private static void namesWhatRunsTheTests(String readme) {
        Check.holds("README.md names .ci/run", readme.contains("\n    .ci/run\n"));
        Check.holds(".ci/run can be run", Files.isExecutable(Path.of(".ci", "run")));
        for (String folder : new String[] {"../shared/tests", "src/test/java"}) {
            Check.holds("README.md names " + folder, readme.contains("`" + folder));
            Check.holds(folder + " is a folder", Files.isDirectory(Path.of(folder)));
        }
    }
}
