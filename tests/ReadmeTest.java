import java.io.ByteArrayOutputStream;
import java.io.IOException;
import java.io.PrintStream;
import java.net.URL;
import java.net.URLClassLoader;
import java.nio.file.Files;
import java.nio.file.Path;
import java.util.ArrayList;
import java.util.List;
import javax.tools.ToolProvider;

/** The example of README.md compiles, and prints what stands behind its lines. */
public final class ReadmeTest {
    public static void main(String[] args) throws IOException, ReflectiveOperationException {
        String text = Files.readString(Path.of("README.md"));
        String example = text.substring(text.indexOf("```java\n") + 8);
        example = example.substring(0, example.indexOf("```"));
        List<String> due = new ArrayList<>();
        for (String line : example.split("\n")) {
            if (line.contains("println(")) {
                due.add(line.replaceAll(".*; // ", "").replaceAll(":.*", ""));
            }
        }
        Check.same("lines that print", due.size() > 5, true);
        Check.same("what the example prints", printed(example), due);
        Check.end(ReadmeTest.class);
    }

    private static List<String> printed(String example) throws IOException, ReflectiveOperationException {
        Path folder = Files.createTempDirectory("readme");
        Path file = folder.resolve("Mine.java");
        Files.writeString(file, "public class Mine {\n    public static void main(String[] args) {\n" + example + "}\n}\n");
        int failed = ToolProvider.getSystemJavaCompiler().run(null, null, null, "-d", folder.toString(), "-cp",
                System.getProperty("java.class.path"), file.toString());
        Check.same("the example compiles", failed, 0);
        ByteArrayOutputStream all = new ByteArrayOutputStream();
        PrintStream before = System.out;
        System.setOut(new PrintStream(all));
        try (URLClassLoader loader = new URLClassLoader(new URL[] {folder.toUri().toURL()})) {
            loader.loadClass("Mine").getMethod("main", String[].class).invoke(null, (Object) new String[0]);
        } finally {
            System.setOut(before);
            try (var files = Files.list(folder)) {
                files.forEach(made -> made.toFile().delete());
            }
            Files.delete(folder);
        }
        return all.toString().lines().toList();
    }
}
