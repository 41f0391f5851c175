import java.io.IOException;
import java.lang.reflect.Method;
import java.nio.charset.StandardCharsets;
import java.nio.file.Files;
import java.nio.file.Path;
import java.util.ArrayList;
import java.util.List;
import java.util.regex.Matcher;
import java.util.regex.Pattern;

/**
 * Holds the tests against the document: the words that a test is said to hold stand in it, and of its
 * promises and terms no word is left without a test but those that name no boundary case.
 */
public final class SentencesTest {
    private static final Path DOCUMENT = Path.of("..", "shared", "DOC.md");
    private static final int PROMISES = 30;
    /** The heads of paragraphs, and what tells of no call in particular. */
    private static final String[] WITHOUT_BOUNDARY = {
        "All values are integers. Everything is numbered from 0. All divisions round down.",
        "NONE is not an error code.", "Boxes.", "Frames and threads.", "Cards.", "Speed.", "Picks.", "Cloth.",
        "Taking back.", "Text.", "Undo.", "Error codes.", "The constants:"};
    private static final Pattern WORD = Pattern.compile("[A-Za-z0-9_]+");

    private final String document;
    private final boolean[] isTold;

    private SentencesTest(String document) {
        this.document = document;
        isTold = new boolean[document.length()];
    }

    public static void main(String[] args) throws IOException, ClassNotFoundException {
        SentencesTest test = new SentencesTest(new String(Files.readAllBytes(DOCUMENT), StandardCharsets.UTF_8));
        for (int promise = 1; promise <= PROMISES; promise++) {
            test.promise(promise);
        }
        test.leaveOut();
        test.noWordIsLeft("Terms");
        for (int promise = 1; promise <= PROMISES; promise++) {
            test.noWordIsLeft("Promise " + promise + ":");
        }
        Check.end("SentencesTest");
    }

    private void promise(int number) throws ClassNotFoundException {
        Class<?> tests = Class.forName(String.format("Promise%02dTest", number));
        Check.holds(tests + " has tests", !Promise.testsOf(tests).isEmpty());
        for (Method test : Promise.testsOf(tests)) {
            for (String words : test.getAnnotation(Sentence.class).value()) {
                boolean isFound = tell(words, "Promise " + number + ":") | tell(words, "Terms") | tell(words, "What it is");
                Check.holds(test + ": the document has the words " + words, isFound);
            }
        }
    }

    private void leaveOut() {
        for (String words : WITHOUT_BOUNDARY) {
            Check.holds("the document has the words " + words, tell(words, "Terms"));
        }
    }

    private int begin(String title) {
        int begin = document.indexOf("\n## " + title);
        Check.holds("the document has the section " + title, begin >= 0);
        return document.indexOf('\n', begin + 1);
    }

    private int end(String title) {
        int end = document.indexOf("\n## ", begin(title));
        return end < 0 ? document.length() : end;
    }

    /** Marks the words wherever they stand in the section; false if they don't. */
    private boolean tell(String words, String title) {
        int end = end(title);
        boolean isFound = false;
        int at = document.indexOf(words, begin(title));
        while (at >= 0 && at + words.length() <= end) {
            isFound = true;
            java.util.Arrays.fill(isTold, at, at + words.length(), true);
            at = document.indexOf(words, at + 1);
        }
        return isFound;
    }

    /** The line with a method's face is FaceTest's; the lists of calls tell nothing of them but "change nothing". */
    private void noWordIsLeft(String title) {
        String section = document.substring(begin(title), end(title));
        int begin = begin(title);
        List<String> left = new ArrayList<>();
        for (Matcher line = Pattern.compile("[^\n]+").matcher(section); line.find();) {
            if (!line.group().startsWith("Ahead of the calls")) {
                left.addAll(wordsLeft(begin + line.start(), begin + line.end()));
            }
        }
        Check.holds(title + " leaves without a test: " + String.join(" ", left), left.isEmpty());
    }

    private List<String> wordsLeft(int begin, int end) {
        String line = document.substring(begin, end);
        int face = line.startsWith("`") && line.contains(")`:") ? line.indexOf(")`:") : 0;
        List<String> left = new ArrayList<>();
        for (Matcher word = WORD.matcher(line); word.find();) {
            if (word.start() >= face && !isTold[begin + word.start()]) {
                left.add(word.group());
            }
        }
        return left;
    }
}
