import java.io.IOException;
import java.lang.reflect.Method;
import java.nio.charset.StandardCharsets;
import java.nio.file.Files;
import java.nio.file.Path;
import java.util.ArrayList;
import java.util.Arrays;
import java.util.List;
import java.util.regex.Matcher;
import java.util.regex.Pattern;

/**
 * Holds the tests against the document: the words that a test is said to hold stand in it, each sentence
 * of its promises and terms has a test of its own, and no word of them is left without a test.
 */
public final class SentencesTest {
    private static final Path DOCUMENT = Path.of("..", "shared", "DOC.md");
    private static final int PROMISES = 30;
    private static final String TERMS = "Terms";
    /** The heads of paragraphs, and sentences that only tell what others tell with their bounds. */
    private static final String[] WITHOUT_BOUNDARY = {
        "All values are integers.", "All divisions round down.", "Boxes.", "Frames and threads.", "Cards.", "Speed.",
        "Picks.", "Cloth.", "Taking back.", "Text.", "Undo.", "Error codes.", "The constants:", "Changes the speed.",
        "Turns the chain to a card.", "Returns something about a shuttle.", "Returns something about a thread.",
        "Returns something about a card.", "Returns the number;", "Returns the hash."};
    private static final Pattern LINE = Pattern.compile("[^\n]+");
    private static final Pattern WORD = Pattern.compile("[A-Za-z0-9_]+");

    private final String document;
    /** For each sign of the document whether a test is said to hold it. */
    private final boolean[] isTold;

    private SentencesTest(String document) {
        this.document = document;
        isTold = new boolean[document.length()];
    }

    public static void main(String[] args) throws IOException, ClassNotFoundException {
        SentencesTest test = new SentencesTest(new String(Files.readAllBytes(DOCUMENT), StandardCharsets.UTF_8));
        List<String> own = new ArrayList<>();
        for (int promise = 1; promise <= PROMISES; promise++) {
            List<String> ownOfPromise = test.ownOf(promise);
            test.eachSentenceHasItsOwn(sectionOf(promise), ownOfPromise);
            own.addAll(ownOfPromise);
        }
        test.eachSentenceHasItsOwn(TERMS, own);
        test.noWordIsLeft();
        Check.end("SentencesTest");
    }

    private static String sectionOf(int promise) {
        return "Promise " + promise + ":";
    }

    /** What the tests of a promise are said to hold first of all, each for itself. */
    private List<String> ownOf(int promise) throws ClassNotFoundException {
        Class<?> tests = Class.forName(String.format("Promise%02dTest", promise));
        List<String> own = new ArrayList<>();
        for (Method test : Promise.testsOf(tests)) {
            String[] sentences = test.getAnnotation(Sentence.class).value();
            own.add(sentences[0]);
            for (String words : sentences) {
                boolean isFound = tell(words, sectionOf(promise)) | tell(words, TERMS) | tell(words, "What it is");
                Check.holds(test + ": the document has the words " + words, isFound);
            }
        }
        Check.holds(tests + " has tests", !own.isEmpty());
        return own;
    }

    /** Marks the words wherever they stand in the section; false if they don't. */
    private boolean tell(String words, String title) {
        int end = end(title);
        boolean isFound = false;
        int at = document.indexOf(words, begin(title));
        while (at >= 0 && at + words.length() <= end) {
            isFound = true;
            Arrays.fill(isTold, at, at + words.length(), true);
            at = document.indexOf(words, at + 1);
        }
        return isFound;
    }

    private int begin(String title) {
        int begin = document.indexOf("\n## " + title);
        Check.holds("the document has the section " + title, begin >= 0);
        return document.indexOf('\n', begin + 1);
    }

    private int end(String title) {
        int end = document.indexOf("\n## ", begin(title));
        return end < 0 ? document.length() : end;
    }

    /** The lists of calls tell nothing of them but that forecasts change nothing. */
    private List<int[]> linesOf(String title) {
        List<int[]> lines = new ArrayList<>();
        int begin = begin(title);
        for (Matcher line = LINE.matcher(document.substring(begin, end(title))); line.find();) {
            if (!line.group().startsWith("Ahead of the calls")) {
                lines.add(new int[] {begin + line.start() + faceOf(line.group()), begin + line.end()});
            }
        }
        return lines;
    }

    /** The length of a method's face before what it does; FaceTest holds the faces. */
    private static int faceOf(String line) {
        int end = line.indexOf(")`: ");
        return line.startsWith("`") && end >= 0 ? end + 4 : 0;
    }

    private void eachSentenceHasItsOwn(String title, List<String> own) {
        for (int[] line : linesOf(title)) {
            for (String sentence : document.substring(line[0], line[1]).split("(?<=[;.]) ")) {
                boolean hasOwn = isPartOfAny(sentence, List.of(WITHOUT_BOUNDARY));
                for (String words : own) {
                    hasOwn |= isPartOfAny(words, List.of(sentence)) || isPartOfAny(sentence, List.of(words));
                }
                Check.holds(title + " has a test of its own for: " + sentence, hasOwn);
            }
        }
    }

    private static boolean isPartOfAny(String part, List<String> wholes) {
        String words = part.replaceAll("^- |[.;:,]+$", "");
        for (String whole : wholes) {
            if (whole.contains(words)) {
                return true;
            }
        }
        return false;
    }

    private void noWordIsLeft() {
        for (String words : WITHOUT_BOUNDARY) {
            boolean isFound = tell(words, TERMS);
            for (int promise = 1; promise <= PROMISES; promise++) {
                isFound |= tell(words, sectionOf(promise));
            }
            Check.holds("the document has the words " + words, isFound);
        }
        wordsLeft(TERMS);
        for (int promise = 1; promise <= PROMISES; promise++) {
            wordsLeft(sectionOf(promise));
        }
    }

    private void wordsLeft(String title) {
        List<String> left = new ArrayList<>();
        for (int[] line : linesOf(title)) {
            for (Matcher word = WORD.matcher(document).region(line[0], line[1]); word.find();) {
                if (!isTold[word.start()]) {
                    left.add(word.group());
                }
            }
        }
        Check.holds(title + " leaves without a test: " + String.join(" ", left), left.isEmpty());
    }
}
