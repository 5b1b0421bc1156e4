import java.io.ByteArrayOutputStream;
import java.io.IOException;
import java.io.PrintStream;
import java.net.URL;
import java.net.URLClassLoader;
import java.nio.file.Files;
import java.nio.file.Path;
import java.util.ArrayList;
import java.util.List;
import java.util.Set;
import java.util.TreeSet;
import java.util.regex.Matcher;
import java.util.regex.Pattern;
import java.util.stream.Stream;
import javax.tools.ToolProvider;

/** README.md names each call and each test, and its example prints what it says. */
public final class ReadmeTest {
    private static final Check check = new Check("ReadmeTest");
    private static final Path README = Path.of("README.md");
    private static final Path DOCUMENT = Path.of("../shared/DOC.md");
    private static final Path TESTS = Path.of("src/test/java");

    public static void main(String[] args) throws Exception {
        String readme = Files.readString(README);
        eachCallIsThere(readme);
        eachTestIsThere(readme);
        exampleHolds(readme);
        check.end();
    }

    private static void eachCallIsThere(String readme) throws IOException {
        Set<String> due = new TreeSet<>();
        for (String call : found("^    public \\w+ (\\w+\\([^)]*\\))", Files.readString(DOCUMENT))) {
            due.add(call.replace("int ", ""));
        }
        check.same("calls of the face", due.size(), 36);
        check.same("the calls", new TreeSet<>(found("`(\\w+\\([^)`]*\\))`", readme)), due);
    }

    private static void eachTestIsThere(String readme) throws IOException {
        Set<String> due = new TreeSet<>();
        try (Stream<Path> files = Files.list(TESTS)) {
            for (Path file : files.toList()) {
                due.addAll(found("^(\\w+Test)\\.java$", file.getFileName().toString()));
            }
        }
        check.same("the tests", new TreeSet<>(found("^\\| `(\\w+Test)` \\|", readme)), due);
    }

    private static void exampleHolds(String readme) throws Exception {
        List<String> examples = found("(?s)^```java\n(.*?)^```$", readme);
        check.same("examples", examples.size(), 1);
        List<String> due = found("// prints (\\S+?):?(?: .*)?$", examples.get(0));
        check.same("each line that prints says what", found("(println)", examples.get(0)).size(), due.size());
        check.same("what is printed", printedBy(examples.get(0)), due);
    }

    private static List<String> found(String pattern, String text) {
        List<String> all = new ArrayList<>();
        Matcher matcher = Pattern.compile(pattern, Pattern.MULTILINE).matcher(text);
        while (matcher.find()) {
            all.add(matcher.group(1));
        }
        return all;
    }

    /** The statements are compiled and run as the body of a program. */
    private static List<String> printedBy(String statements) throws Exception {
        Path place = Files.createTempDirectory("readme");
        Path source = place.resolve("Example.java");
        Files.writeString(source, "public class Example { public static void main(String[] args) {\n"
            + statements + "} }\n");
        int failed = ToolProvider.getSystemJavaCompiler().run(null, null, null,
            "-cp", System.getProperty("java.class.path"), "-d", place.toString(), source.toString());
        check.same("what javac says of the example", failed, 0);
        List<String> printed = failed == 0 ? run(place) : List.of();
        try (Stream<Path> files = Files.list(place)) {
            for (Path file : files.toList()) {
                Files.delete(file);
            }
        }
        Files.delete(place);
        return printed;
    }

    private static List<String> run(Path place) throws Exception {
        PrintStream screen = System.out;
        ByteArrayOutputStream printed = new ByteArrayOutputStream();
        try (URLClassLoader loader = new URLClassLoader(new URL[] {place.toUri().toURL()})) {
            System.setOut(new PrintStream(printed, true));
            loader.loadClass("Example").getMethod("main", String[].class).invoke(null, (Object) new String[0]);
        } finally {
            System.setOut(screen);
        }
        return printed.toString().lines().toList();
    }
}
