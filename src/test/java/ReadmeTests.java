import java.io.File;
import java.io.IOException;
import java.nio.file.Files;
import java.nio.file.Path;
import java.util.Comparator;
import java.util.regex.Matcher;
import java.util.regex.Pattern;
import java.util.stream.Stream;

/** The example of README.md compiles beside the class, and prints what README.md says. */
public final class ReadmeTests extends Bounds {
    private static final Pattern EXAMPLE = Pattern.compile("```java\n(.*?)```.*?```\n(.*?)```", Pattern.DOTALL);

    public static void main(String[] args) throws IOException, InterruptedException {
        sentence(0, "The class keeps the game, tells chances as exact fractions, advises, "
                + "and solves small games that are given as matrices.");
        Matcher example = EXAMPLE.matcher(Files.readString(Path.of("README.md")));
        if (!example.find()) {
            tell("there is no example in README.md");
        } else {
            String printed = printedBy(example.group(1));
            due("lines that the example prints", printed.lines().count(), example.group(2).lines().count());
            if (!printed.equals(example.group(2))) {
                tell("the example prints\n" + printed);
            }
        }
        end();
    }

    private static String printedBy(String program) throws IOException, InterruptedException {
        Path folder = Files.createTempDirectory("readme");
        try {
            String source = Files.writeString(folder.resolve("Example.java"), program).toString();
            String classes = System.getProperty("java.class.path");
            printedByRun("javac", "-cp", classes, "-d", folder.toString(), source);
            return printedByRun("java", "-cp", classes + File.pathSeparator + folder, "Example");
        } finally {
            remove(folder);
        }
    }

    private static String printedByRun(String... command) throws IOException, InterruptedException {
        Process process = new ProcessBuilder(command).redirectError(ProcessBuilder.Redirect.INHERIT).start();
        String printed = new String(process.getInputStream().readAllBytes()).replace("\r", "");
        due("exit code of " + command[0], process.waitFor(), 0);
        return printed;
    }

    private static void remove(Path folder) throws IOException {
        try (Stream<Path> files = Files.walk(folder)) {
            for (Path file : files.sorted(Comparator.reverseOrder()).toList()) {
                Files.delete(file);
            }
        }
    }
}
