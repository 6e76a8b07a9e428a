import java.io.ByteArrayOutputStream;
import java.io.IOException;
import java.io.PrintStream;
import java.lang.reflect.Method;
import java.lang.reflect.Modifier;
import java.net.URL;
import java.net.URLClassLoader;
import java.nio.charset.StandardCharsets;
import java.nio.file.Files;
import java.nio.file.Path;
import java.util.List;
import java.util.stream.Collectors;
import java.util.stream.Stream;
import javax.tools.JavaCompiler;
import javax.tools.ToolProvider;

/** README.md: its program compiles and prints what it tells; it names every call, every test and the command. */
public final class ReadmeTest {
    private static final Path TESTS = Path.of("src/test/java");

    public static void main(String[] args) throws Exception {
        String readme = Files.readString(Path.of("README.md"));
        Due.yes("README.md tells the command that runs the tests", readme.contains("\n    .ci/run\n"));
        callsAreNamed(readme);
        testsAreNamed(readme);
        programPrints(readme);
        Due.end("ReadmeTest");
    }

    private static void callsAreNamed(String readme) {
        for (Method method : PotVolumes.class.getDeclaredMethods()) {
            if (Modifier.isPublic(method.getModifiers())) {
                Due.yes("README.md tells of " + method.getName(), readme.contains("`" + method.getName() + "("));
            }
        }
    }

    private static void testsAreNamed(String readme) throws IOException {
        try (Stream<Path> files = Files.list(TESTS)) {
            for (Path file : files.collect(Collectors.toList())) {
                Due.yes("README.md names " + file.getFileName(), readme.contains(file.getFileName().toString()));
            }
        }
    }

    private static void programPrints(String readme) throws Exception {
        String program = block(readme, "java");
        String told = block(readme, "text");
        Path here = Files.createTempDirectory("readme");
        Path source = here.resolve("Jars.java");
        Files.writeString(source, program);
        JavaCompiler compiler = ToolProvider.getSystemJavaCompiler();
        int failed = compiler.run(null, System.out, System.out, "-d", here.toString(),
                "-cp", System.getProperty("java.class.path"), source.toString());
        Due.answer("compiling README.md's program", 0, failed);
        if (failed == 0) {
            String printed = printedBy(here);
            Due.yes("README.md's program prints what it tells, and not: " + printed, printed.equals(told));
        }
        removeAll(here);
    }

    /** The lines of the first block that is fenced as such; nothing if there is none. */
    private static String block(String readme, String kind) {
        String fence = "```" + kind + "\n";
        int start = readme.indexOf(fence);
        int end = start < 0 ? -1 : readme.indexOf("```\n", start + fence.length());
        Due.yes("README.md has a block of " + kind, end >= 0);
        return end < 0 ? "" : readme.substring(start + fence.length(), end);
    }

    private static String printedBy(Path classes) throws Exception {
        PrintStream before = System.out;
        ByteArrayOutputStream printed = new ByteArrayOutputStream();
        try (URLClassLoader loader = new URLClassLoader(new URL[] {classes.toUri().toURL()})) {
            Method main = loader.loadClass("Jars").getMethod("main", String[].class);
            System.setOut(new PrintStream(printed, true, StandardCharsets.UTF_8));
            main.invoke(null, (Object) new String[0]);
        } finally {
            System.setOut(before);
        }
        return printed.toString(StandardCharsets.UTF_8).replace(System.lineSeparator(), "\n");
    }

    private static void removeAll(Path directory) throws IOException {
        List<Path> files;
        try (Stream<Path> found = Files.list(directory)) {
            files = found.collect(Collectors.toList());
        }
        for (Path file : files) {
            Files.delete(file);
        }
        Files.delete(directory);
    }
}
