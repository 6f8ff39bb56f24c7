import java.io.ByteArrayOutputStream;
import java.io.File;
import java.io.IOException;
import java.io.PrintStream;
import java.net.URL;
import java.net.URLClassLoader;
import java.nio.charset.StandardCharsets;
import java.nio.file.Files;
import java.nio.file.Path;
import java.util.ArrayList;
import java.util.List;
import java.util.regex.Matcher;
import java.util.regex.Pattern;
import java.util.stream.Stream;
import javax.tools.ToolProvider;

/** The examples in README.md print what stands behind them there, and its table names every test. */
public final class ReadmeTest {
    private static final Pattern EXAMPLE = Pattern.compile("```java\n(.*?)```\n\n```text\n(.*?)```\n", Pattern.DOTALL);
    private static final int EXAMPLES = 3;

    private final Due due = new Due();
    private final String readme;

    private ReadmeTest(String readme) {
        this.readme = readme;
    }

    public static void main(String[] args) throws IOException, ReflectiveOperationException {
        ReadmeTest test = new ReadmeTest(Files.readString(Path.of("README.md")));
        test.examples();
        test.table();
        test.due.finish();
    }

    private void examples() throws IOException, ReflectiveOperationException {
        Matcher example = EXAMPLE.matcher(readme);
        int seen = 0;
        while (example.find()) {
            seen++;
            String want = example.group(2);
            String got = printed("Example" + seen, example.group(1));
            due.isTrue("example " + seen + " prints\n" + got + "which", got.equals(want));
        }
        due.is("examples", seen, EXAMPLES);
    }

    private static String printed(String name, String body) throws IOException, ReflectiveOperationException {
        Path folder = Files.createTempDirectory("readme");
        Path source = folder.resolve(name + ".java");
        Path classes = folder.resolve(name + ".class");
        Files.writeString(source, "public final class " + name + " { public static void main(String[] args) {\n"
                + body + "} }\n");
        int failed = ToolProvider.getSystemJavaCompiler().run(null, null, null, "-d", folder.toString(), "-cp",
                System.getProperty("java.class.path"), source.toString());
        String text = failed == 0 ? outputOf(folder, name) : "nothing, as it does not compile\n";
        Files.deleteIfExists(source);
        Files.deleteIfExists(classes);
        Files.deleteIfExists(folder);
        return text;
    }

    private static String outputOf(Path folder, String name) throws IOException, ReflectiveOperationException {
        PrintStream before = System.out;
        ByteArrayOutputStream text = new ByteArrayOutputStream();
        try (URLClassLoader loader = new URLClassLoader(new URL[] {folder.toUri().toURL()});
                PrintStream out = new PrintStream(text, true, StandardCharsets.UTF_8)) {
            System.setOut(out);
            loader.loadClass(name).getMethod("main", String[].class).invoke(null, (Object) new String[0]);
        } finally {
            System.setOut(before);
        }
        return text.toString(StandardCharsets.UTF_8).replace(System.lineSeparator(), "\n");
    }

    private void table() throws IOException {
        List<String> tests = new ArrayList<>();
        try (Stream<Path> files = Files.list(Path.of("src", "test", "java"))) {
            files.map(Path::toFile).map(File::getName).filter(name -> name.endsWith("Test.java")).sorted()
                    .forEach(name -> tests.add(name.substring(0, name.length() - ".java".length())));
        }
        for (String test : tests) {
            due.isTrue("the table names " + test + ", which", readme.contains("`" + test + "`"));
        }
        due.isTrue("it says how to run them, which", readme.contains("\n.ci/run\n"));
    }
}
