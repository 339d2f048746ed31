import java.io.IOException;
import java.net.URL;
import java.net.URLClassLoader;
import java.nio.file.Files;
import java.nio.file.Path;
import java.util.ArrayList;
import java.util.List;
import java.util.regex.Matcher;
import java.util.regex.Pattern;
import javax.tools.ToolProvider;

/** The example of README.md answers what its remarks say; the argument is the program's file. */
public final class ReadmeTest {
    private static final Pattern ANSWERED = Pattern.compile("(mix\\.\\w+\\(.*\\)); +// (-?\\d+)\\b.*");

    private ReadmeTest() {
    }

    public static void main(String[] args) throws IOException, ReflectiveOperationException {
        Path program = Path.of(args.length > 0 ? args[0] : "src/main/java/LittleMix.java").toAbsolutePath();
        Path root = program.getParent().getParent().getParent().getParent();
        String readme = Files.readString(root.resolve("README.md"));
        run(example(readme));
        Kit.due("README.md says how to run the tests", readme.contains(".ci/run"), true);
        everyTestIsNamed(readme, root.resolve("src/test/java"));
        Kit.end();
    }

    /** Public, for the example is loaded apart from the tests. */
    public static void due(String what, long got, long want) {
        Kit.due(what, got, want);
    }

    private static List<String> example(String readme) {
        int start = readme.indexOf("```java\n") + "```java\n".length();
        List<String> lines = new ArrayList<>();
        int answers = 0;
        for (String line : readme.substring(start, readme.indexOf("```\n", start)).split("\n")) {
            Matcher matcher = ANSWERED.matcher(line);
            if (matcher.matches()) {
                answers++;
                lines.add("ReadmeTest.due(\"README.md: " + matcher.group(1) + "\", " + matcher.group(1) + ", " + matcher.group(2) + "L);");
            } else {
                lines.add(line);
            }
        }
        Kit.due("the example has answers", answers > 10, true);
        return lines;
    }

    private static void run(List<String> lines) throws IOException, ReflectiveOperationException {
        Path directory = Files.createTempDirectory("readme");
        Path file = directory.resolve("ReadmeExample.java");
        Files.writeString(file, "public class ReadmeExample { public static void main(String[] args) {\n" + String.join("\n", lines) + "\n} }\n");
        int refused = ToolProvider.getSystemJavaCompiler().run(null, null, null, "-cp", System.getProperty("java.class.path"), "-d", directory.toString(), file.toString());
        Kit.due("the example compiles", refused, 0);
        if (refused == 0) {
            try (URLClassLoader loader = new URLClassLoader(new URL[] {directory.toUri().toURL()})) {
                loader.loadClass("ReadmeExample").getMethod("main", String[].class).invoke(null, (Object) new String[0]);
            }
        }
        Files.deleteIfExists(directory.resolve("ReadmeExample.class"));
        Files.delete(file);
        Files.delete(directory);
    }

    private static void everyTestIsNamed(String readme, Path tests) throws IOException {
        try (var files = Files.list(tests)) {
            for (Path file : (Iterable<Path>) files::iterator) {
                String name = file.getFileName().toString().replace(".java", "");
                Kit.due("README.md names " + name, readme.contains(name), true);
            }
        }
    }
}
