import java.io.ByteArrayOutputStream;
import java.io.IOException;
import java.io.PrintStream;
import java.net.URL;
import java.net.URLClassLoader;
import java.nio.file.DirectoryStream;
import java.nio.file.Files;
import java.nio.file.Path;
import java.util.ArrayList;
import java.util.Comparator;
import java.util.List;
import java.util.Set;
import java.util.TreeSet;
import java.util.stream.Collectors;
import java.util.stream.Stream;
import javax.tools.JavaCompiler;
import javax.tools.ToolProvider;

/** The example in README.md prints what README.md says, and what it tells of the tests is so. */
public final class ReadmeTest {
    private static final Path README = Path.of("README.md");
    private static final Path SOURCE = Path.of("src/main/java/PlanetWorkshop.java");
    private static final Path TESTS = Path.of("src/test/java");

    public static void main(String[] args) throws IOException {
        List<String> page = Files.readAllLines(README);
        checkExample(page);
        checkTests(page);
        Check.end("ReadmeTest");
    }

    private static void checkExample(List<String> page) throws IOException {
        List<String> example = block(page, "```java");
        List<String> due = block(page, "```text");
        Check.yes("the example has lines", example.size() > 1);
        Check.yes("README.md says what the example prints", !due.isEmpty());
        Path place = Files.createTempDirectory("readme");
        try {
            Path file = Files.write(place.resolve("Example.java"), example);
            if (isCompiled(place, file)) {
                compare(printed(place), due);
            }
        } finally {
            remove(place);
        }
    }

    /** The lines between such a fence and the next one; there is one such block alone. */
    private static List<String> block(List<String> page, String fence) {
        int first = page.indexOf(fence) + 1;
        Check.yes("README.md has one block " + fence, first > 0 && page.lastIndexOf(fence) == first - 1);
        List<String> rest = page.subList(first, page.size());
        int end = rest.indexOf("```");
        Check.yes("the block " + fence + " has an end", end >= 0);
        return new ArrayList<>(rest.subList(0, Math.max(end, 0)));
    }

    /** Compiles the example together with the class, as README.md tells its reader to. */
    private static boolean isCompiled(Path place, Path file) {
        JavaCompiler compiler = ToolProvider.getSystemJavaCompiler();
        Check.yes("there is a compiler", compiler != null);
        int code = compiler == null ? 1 : compiler.run(null, System.out, System.out, "--release", "17",
                "-Xlint:all", "-Werror", "-cp", place.toString(), "-d", place.toString(),
                SOURCE.toString(), file.toString());
        Check.same("the example compiles", code, 0);
        return code == 0;
    }

    private static List<String> printed(Path place) throws IOException {
        PrintStream screen = System.out;
        ByteArrayOutputStream bytes = new ByteArrayOutputStream();
        URL[] places = {place.toUri().toURL()};
        // the platform's loader knows no class of the tests, so the example uses the class that was
        // compiled together with it
        try (URLClassLoader loader = new URLClassLoader(places, ClassLoader.getPlatformClassLoader());
                PrintStream paper = new PrintStream(bytes, true)) {
            System.setOut(paper);
            Class<?> example = loader.loadClass("Example");
            example.getMethod("main", String[].class).invoke(null, (Object) new String[0]);
        } catch (ReflectiveOperationException e) {
            System.setOut(screen);
            Check.same("the example ends with", e.getCause() == null ? e : e.getCause(), null);
        } finally {
            System.setOut(screen);
        }
        return bytes.toString().lines().collect(Collectors.toList());
    }

    private static void compare(List<String> printed, List<String> due) {
        Check.same("lines that the example prints", printed.size(), due.size());
        for (int line = 0; line < Math.min(printed.size(), due.size()); line++) {
            Check.same("line " + line + " of the example", printed.get(line), due.get(line));
        }
    }

    private static void remove(Path place) throws IOException {
        List<Path> paths;
        try (Stream<Path> walk = Files.walk(place)) {
            paths = walk.sorted(Comparator.reverseOrder()).collect(Collectors.toList());
        }
        for (Path path : paths) {
            Files.delete(path);
        }
    }

    /** The command is there, and the table names every test that there is, and no other one. */
    private static void checkTests(List<String> page) throws IOException {
        Check.yes("README.md has the line .ci/run", page.contains("    .ci/run"));
        Check.yes(".ci/run can be run", Files.isExecutable(Path.of(".ci/run")));
        Set<String> told = page.stream().filter(line -> line.matches("\\| `\\w+` \\|.*"))
                .map(line -> line.replaceAll("\\| `(\\w+)`.*", "$1"))
                .collect(Collectors.toCollection(TreeSet::new));
        Set<String> there = new TreeSet<>();
        try (DirectoryStream<Path> files = Files.newDirectoryStream(TESTS, "*Test.java")) {
            for (Path file : files) {
                there.add(file.getFileName().toString().replace(".java", ""));
            }
        }
        Check.same("the tests in README.md", told.toString(), there.toString());
    }
}
