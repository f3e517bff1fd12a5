import java.io.ByteArrayOutputStream;
import java.io.IOException;
import java.io.PrintStream;
import java.lang.reflect.Method;
import java.lang.reflect.Modifier;
import java.net.URL;
import java.net.URLClassLoader;
import java.nio.charset.StandardCharsets;
import java.nio.file.Files;
import java.nio.file.Path;
import java.util.regex.Matcher;
import java.util.regex.Pattern;
import java.util.stream.Stream;
import javax.tools.ToolProvider;

/** README.md tells the truth: its example prints what it says, and it names every call and every test. */
public final class ReadmeTest {
    private final Check check = new Check("ReadmeTest");
    private final String readme;

    private ReadmeTest() throws IOException {
        readme = Files.readString(Path.of("README.md"));
    }

    public static void main(String[] args) throws Exception {
        ReadmeTest test = new ReadmeTest();
        test.example();
        test.calls();
        test.tests();
        test.check.end();
    }

    private String block(String kind) {
        Matcher block = Pattern.compile("(?s)```" + kind + "\\n(.*?)```").matcher(readme);
        check.due("there is a block of " + kind, block.find(), true);
        return block.group(1);
    }

    private void example() throws Exception {
        Path folder = Files.createTempDirectory("readme");
        Path source = folder.resolve("Example.java");
        try {
            Files.writeString(source, block("java"));
            int failed = ToolProvider.getSystemJavaCompiler()
                    .run(null, null, null, "-d", folder.toString(), source.toString(), "src/main/java/Eightways.java");
            check.due("the example is compiled", failed, 0);
            check.due("the example prints", outputOf(folder), block("text"));
        } finally {
            remove(folder);
        }
    }

    private static String outputOf(Path folder) throws Exception {
        ByteArrayOutputStream printed = new ByteArrayOutputStream();
        PrintStream usual = System.out;
        URL[] places = {folder.toUri().toURL()};
        try (URLClassLoader loader = new URLClassLoader(places, ClassLoader.getPlatformClassLoader())) {
            System.setOut(new PrintStream(printed, true, StandardCharsets.UTF_8));
            loader.loadClass("Example").getMethod("main", String[].class).invoke(null, (Object) new String[0]);
        } finally {
            System.setOut(usual);
        }
        return printed.toString(StandardCharsets.UTF_8).replace(System.lineSeparator(), "\n");
    }

    private static void remove(Path folder) throws IOException {
        try (Stream<Path> files = Files.walk(folder)) {
            for (Path file : (Iterable<Path>) files.sorted((one, other) -> other.compareTo(one))::iterator) {
                Files.delete(file);
            }
        }
    }

    private void calls() {
        for (Method method : Eightways.class.getDeclaredMethods()) {
            if (Modifier.isPublic(method.getModifiers())) {
                check.due(method.getName() + " is named", readme.contains("`" + method.getName() + "`"), true);
            }
        }
    }

    private void tests() throws IOException {
        try (Stream<Path> files = Files.list(Path.of("src/test/java"))) {
            for (Path file : (Iterable<Path>) files::iterator) {
                String name = file.getFileName().toString().replace(".java", "");
                check.due(name + " is named", !name.endsWith("Test") || readme.contains("`" + name + "`"), true);
            }
        }
        Matcher named = Pattern.compile("`(\\w+Test)`").matcher(readme);
        while (named.find()) {
            check.due(named.group(1) + " is there", Files.exists(Path.of("src/test/java", named.group(1) + ".java")), true);
        }
        check.due(".ci/run can be run", Files.isExecutable(Path.of(".ci/run")), true);
    }
}
