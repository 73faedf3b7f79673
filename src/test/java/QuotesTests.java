import java.io.IOException;
import java.nio.file.Files;
import java.nio.file.Path;
import java.util.ArrayList;
import java.util.List;
import java.util.regex.Matcher;
import java.util.regex.Pattern;

/**
 * Reads the document from its first line: all that it says is quoted by a test that is for it, piece by piece
 * (a piece ends at a comma, a stop or a bracket), but for what promises nothing.
 */
public final class QuotesTests {
    private static final Path DOCUMENT = Path.of("../shared/DOC.md");
    private static final Path TESTS = Path.of("src/test/java");

    private static final Pattern PROMISE = Pattern.compile("## Promise (\\d+):.*");
    private static final Pattern LITERAL = Pattern.compile("\"([^\"\\\\]*+(?:\\\\.[^\"\\\\]*+)*+)\"");
    private static final Pattern QUOTE = Pattern.compile("sentence\\((\\d+),\\s*((?:" + LITERAL + "\\s*\\+?\\s*)+)\\)");
    private static final Pattern PIECE = Pattern.compile("[^.,;:()]*[A-Za-z0-9][^.,;:()]*");
    private static final List<String> PROMISES_NOTHING = List.of(
            "A table for dice under cups: ",
            "The constants: ",
            "The constructor and the methods follow, a promise each: the signature, then what it does. ");

    /** A promise with its words, or, as promise 0, any other part of the document. */
    private static final class Section {
        final int promise;
        String words = "";
        boolean[] quoted;

        Section(int promise) {
            this.promise = promise;
        }

        void mark(String quote) {
            for (int at = words.indexOf(quote); at >= 0; at = words.indexOf(quote, at + 1)) {
                for (int i = 0; i < quote.length(); i++) {
                    quoted[at + i] = true;
                }
            }
        }
    }

    public static void main(String[] args) throws IOException {
        List<Section> sections = sectionsRead();
        for (Section section : sections) {
            section.quoted = new boolean[section.words.length()];
            PROMISES_NOTHING.forEach(section::mark);
        }
        int quotes = markQuotes(sections);
        int pieces = 0;
        int missing = 0;
        for (Section section : sections) {
            for (Matcher piece = PIECE.matcher(section.words); piece.find(); pieces++) {
                if (!isQuoted(section, piece.start(), piece.end())) {
                    missing++;
                    System.out.println("promise " + section.promise + ": no test is for \"" + piece.group().trim() + "\"");
                }
            }
        }
        System.out.println(pieces + " pieces, " + quotes + " quotes, " + missing + " pieces without a test");
        if (missing > 0 || pieces < 200) {
            System.exit(1);
        }
    }

    /** The words alone: without headings, the face, signatures and the names of arguments; the last part promises nothing. */
    private static List<Section> sectionsRead() throws IOException {
        List<Section> sections = new ArrayList<>(List.of(new Section(0)));
        boolean inFace = false;
        for (String line : Files.readAllLines(DOCUMENT)) {
            if (line.startsWith("## Not promised")) {
                break;
            }
            if (line.startsWith("#")) {
                Matcher promise = PROMISE.matcher(line);
                sections.add(new Section(promise.matches() ? Integer.parseInt(promise.group(1)) : 0));
            } else if (line.startsWith("```")) {
                inFace = !inFace;
            } else if (!inFace && !line.startsWith("----") && !line.matches("`[^`]*`")) {
                Section last = sections.get(sections.size() - 1);
                last.words += line.replaceAll("^- `\\w+`: ", "").replaceAll("\\s+", " ").trim();
                last.words += last.words.isEmpty() ? "" : " ";
            }
        }
        for (Section section : sections) {
            section.words = section.words.replaceAll("\\s+", " ");
        }
        return sections;
    }

    private static int markQuotes(List<Section> sections) throws IOException {
        int quotes = 0;
        List<Path> tests;
        try (var files = Files.list(TESTS)) {
            tests = files.filter(file -> file.toString().endsWith(".java")).toList();
        }
        for (Path test : tests) {
            for (Matcher quote = QUOTE.matcher(Files.readString(test)); quote.find(); quotes++) {
                int promise = Integer.parseInt(quote.group(1));
                StringBuilder words = new StringBuilder();
                for (Matcher literal = LITERAL.matcher(quote.group(2)); literal.find();) {
                    words.append(literal.group(1).replace("\\\"", "\""));
                }
                for (Section section : sections) {
                    if (promise == 0 || promise == section.promise) {
                        section.mark(words.toString());
                    }
                }
            }
        }
        return quotes;
    }

    private static boolean isQuoted(Section section, int from, int to) {
        int quoted = 0;
        for (int i = from; i < to; i++) {
            quoted += section.quoted[i] ? 1 : 0;
        }
        return 2 * quoted > to - from;
    }
}
