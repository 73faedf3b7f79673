import java.io.ByteArrayOutputStream;
import java.io.File;
import java.io.IOException;
import java.io.PrintStream;
import java.net.URL;
import java.net.URLClassLoader;
import java.nio.file.Files;
import java.nio.file.Path;
import java.util.Comparator;
import java.util.regex.Matcher;
import java.util.regex.Pattern;
import java.util.stream.Stream;
import javax.tools.ToolProvider;

/** The example of README.md compiles beside the class, and prints what README.md says. */
public final class ReadmeTests extends Bounds {
    private static final Pattern EXAMPLE = Pattern.compile("```java\n(.*?)```.*?```\n(.*?)```", Pattern.DOTALL);

    public static void main(String[] args) throws Exception {
        sentence(0, "The class keeps the game, tells chances as exact fractions, advises, "
                + "and solves small games that are given as matrices.");
        Matcher example = EXAMPLE.matcher(Files.readString(Path.of("README.md")));
        if (!example.find()) {
            tell("there is no example in README.md");
        } else {
            String printed = printedBy(example.group(1));
            due("lines that the example prints", printed.lines().count(), example.group(2).lines().count());
            if (!printed.equals(example.group(2))) {
                tell("the example prints\n" + printed);
            }
        }
        end();
    }

    private static String printedBy(String program) throws Exception {
        Path folder = Files.createTempDirectory("readme");
        try {
            Path source = Files.writeString(folder.resolve("Example.java"), program);
            String classes = System.getProperty("java.class.path");
            int failed = ToolProvider.getSystemJavaCompiler().run(null, null, null,
                    "-cp", classes, "-d", folder.toString(), source.toString());
            return failed == 0 ? printedByMain(folder, classes) : "nothing: it does not compile\n";
        } finally {
            remove(folder);
        }
    }

    private static String printedByMain(Path folder, String classes) throws Exception {
        PrintStream screen = System.out;
        ByteArrayOutputStream printed = new ByteArrayOutputStream();
        URL[] places = {folder.toUri().toURL(), new File(classes).toURI().toURL()};
        try (URLClassLoader loader = new URLClassLoader(places)) {
            System.setOut(new PrintStream(printed, true));
            loader.loadClass("Example").getMethod("main", String[].class).invoke(null, (Object) new String[0]);
        } finally {
            System.setOut(screen);
        }
        return printed.toString().replace("\r", "");
    }

    private static void remove(Path folder) throws IOException {
        try (Stream<Path> files = Files.walk(folder)) {
            for (Path file : files.sorted(Comparator.reverseOrder()).toList()) {
                Files.delete(file);
            }
        }
    }
}
