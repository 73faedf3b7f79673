import java.io.IOException;
import java.io.UncheckedIOException;
import java.nio.file.Files;
import java.nio.file.Path;

/** What the tests of boundary cases share: each test quotes the words of the document that it is for. */
abstract class Bounds {
    static final int BAD = -1000, STATE = -1001, FULL = -1002, NONE = -1003;

    private static final Path DOCUMENT = Path.of("../shared/DOC.md");
    private static final String WORDS = documentRead();

    private static String sentence = "no sentence";
    private static int sentences = 0;
    private static int answers = 0;
    private static int wrong = 0;

    /** Without the document the quotes go unchecked; the answers do not rest on it. */
    private static String documentRead() {
        try {
            return Files.exists(DOCUMENT) ? Files.readString(DOCUMENT).replaceAll("\\s+", " ") : "";
        } catch (IOException e) {
            throw new UncheckedIOException(e);
        }
    }

    /** Promises are quoted by their number; 0 stands for the whole document. */
    static void sentence(int promise, String words) {
        sentence = (promise == 0 ? "description" : "promise " + promise) + ", \"" + words + "\"";
        sentences++;
        if (!WORDS.isEmpty() && !promiseRead(promise).contains(words)) {
            tell("these words do not stand there");
        }
    }

    private static String promiseRead(int promise) {
        if (promise == 0) {
            return WORDS;
        }
        int from = WORDS.indexOf("## Promise " + promise + ":");
        int next = WORDS.indexOf("## Promise " + (promise + 1) + ":");
        return WORDS.substring(from, next < 0 ? WORDS.indexOf("## Not promised") : next);
    }

    static void due(String what, long got, long want) {
        answers++;
        if (got != want) {
            tell(what + " answered " + got + ", due is " + want);
        }
    }

    static void tell(String fault) {
        wrong++;
        System.out.println(sentence + ": " + fault);
    }

    static void end() {
        System.out.println(sentences + " sentences, " + answers + " answers, " + wrong + " faults");
        if (wrong != 0 || sentences == 0) {
            System.exit(1);
        }
    }
}
