import java.io.ByteArrayOutputStream;
import java.io.File;
import java.io.IOException;
import java.io.PrintStream;
import java.lang.reflect.Method;
import java.lang.reflect.Modifier;
import java.net.URL;
import java.net.URLClassLoader;
import java.nio.file.Files;
import java.nio.file.Path;
import java.util.Comparator;
import java.util.List;
import java.util.stream.Stream;
import javax.tools.JavaCompiler;
import javax.tools.ToolProvider;

/** README.md: its example prints what stands under it, and it names every call and every test. */
public final class ReadmeTest extends Checks {
    private static final Path README = Path.of("README.md");
    private static final Path TESTS = Path.of("src", "test", "java");

    public static void main(String[] args) throws Exception {
        String readme = Files.readString(README);
        theExamplePrintsWhatStandsUnderIt(readme);
        everyCallIsNamed(readme);
        everyTestIsNamed(readme);
        end();
    }

    private static void theExamplePrintsWhatStandsUnderIt(String readme) throws Exception {
        Path room = Files.createTempDirectory("readme");
        try {
            Path source = room.resolve("Example.java");
            Files.writeString(source, fenced(readme, "java"));
            dueText("the example", compiled(source, room) ? printed(room) : "does not compile", fenced(readme, "text"));
        } finally {
            remove(room);
        }
    }

    /** What stands between the first fence of a kind and the next one. */
    private static String fenced(String readme, String kind) {
        String opening = "```" + kind + "\n";
        int start = readme.indexOf(opening);
        int stop = start < 0 ? -1 : readme.indexOf("```", start + opening.length());
        return stop < 0 ? "there is no " + kind : readme.substring(start + opening.length(), stop);
    }

    private static boolean compiled(Path source, Path room) {
        JavaCompiler compiler = ToolProvider.getSystemJavaCompiler();
        String classes = System.getProperty("java.class.path");
        return compiler != null
                && compiler.run(null, null, null, "-cp", classes, "-d", room.toString(), source.toString()) == 0;
    }

    private static String printed(Path room) throws Exception {
        PrintStream before = System.out;
        ByteArrayOutputStream bytes = new ByteArrayOutputStream();
        try (URLClassLoader loader = new URLClassLoader(new URL[] {room.toUri().toURL()})) {
            Method main = loader.loadClass("Example").getMethod("main", String[].class);
            System.setOut(new PrintStream(bytes, true));
            main.invoke(null, (Object) new String[0]);
        } finally {
            System.out.flush();
            System.setOut(before);
        }
        return bytes.toString().replace(System.lineSeparator(), "\n");
    }

    private static void everyCallIsNamed(String readme) {
        for (Method method : FractalMaps.class.getDeclaredMethods()) {
            if (Modifier.isPublic(method.getModifiers())) {
                String row = "| `" + method.getName() + "(";
                due("README.md has a row for " + method.getName(), readme.contains(row) ? 1 : 0, 1);
            }
        }
    }

    private static void everyTestIsNamed(String readme) throws IOException {
        try (Stream<Path> tests = Files.list(TESTS)) {
            for (Path test : tests.toList()) {
                String name = "`src/test/java/" + test.getFileName() + "`";
                due("README.md names " + test.getFileName(), readme.contains(name) ? 1 : 0, 1);
            }
        }
    }

    private static void remove(Path room) throws IOException {
        try (Stream<Path> all = Files.walk(room)) {
            List<Path> deepestFirst = all.sorted(Comparator.reverseOrder()).toList();
            deepestFirst.stream().map(Path::toFile).forEach(File::delete);
        }
    }
}
