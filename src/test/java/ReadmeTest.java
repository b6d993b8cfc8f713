import java.io.ByteArrayOutputStream;
import java.io.PrintStream;
import java.net.URI;
import java.net.URL;
import java.net.URLClassLoader;
import java.nio.charset.StandardCharsets;
import java.nio.file.Files;
import java.nio.file.Path;
import java.util.ArrayList;
import java.util.List;
import javax.tools.JavaCompiler;
import javax.tools.JavaFileObject;
import javax.tools.SimpleJavaFileObject;
import javax.tools.ToolProvider;

/** The example of README.md compiles, and prints what README.md says. */
final class ReadmeTest {
    public static void main(String[] args) throws Exception {
        List<String> readme = Files.readAllLines(Path.of("README.md"));
        String example = String.join("\n", block(readme, "```java"));
        List<String> printed = print(example);
        Check.equal(String.join("\n", block(readme, "```text")), String.join("\n", printed));
        Check.equal(false, printed.isEmpty());
        Check.end();
    }

    /** The lines of the first block that is opened so. */
    private static List<String> block(List<String> lines, String opening) {
        List<String> found = new ArrayList<>();
        int start = lines.indexOf(opening);
        Check.equal(opening + " is there", opening + (start >= 0 ? " is there" : " is missing"));
        for (int i = start + 1; i < lines.size() && !lines.get(i).equals("```"); i++) {
            found.add(lines.get(i));
        }
        return found;
    }

    private static List<String> print(String source) throws Exception {
        Path folder = Files.createTempDirectory("readme");
        try {
            return isCompiled(source, folder) ? run(folder) : List.of();
        } finally {
            Files.deleteIfExists(folder.resolve("Example.class"));
            Files.delete(folder);
        }
    }

    private static boolean isCompiled(String source, Path folder) {
        JavaCompiler compiler = ToolProvider.getSystemJavaCompiler();
        JavaFileObject file = new SimpleJavaFileObject(URI.create("string:///Example.java"), JavaFileObject.Kind.SOURCE) {
            @Override
            public CharSequence getCharContent(boolean ignoresErrors) {
                return source;
            }
        };
        List<String> options = List.of("-d", folder.toString(), "-cp", System.getProperty("java.class.path"));
        boolean isCompiled = compiler.getTask(null, null, null, options, null, List.of(file)).call();
        Check.equal(true, isCompiled);
        return isCompiled;
    }

    private static List<String> run(Path folder) throws Exception {
        PrintStream before = System.out;
        ByteArrayOutputStream caught = new ByteArrayOutputStream();
        try (URLClassLoader loader = new URLClassLoader(new URL[] {folder.toUri().toURL()})) {
            System.setOut(new PrintStream(caught, true, StandardCharsets.UTF_8));
            loader.loadClass("Example").getMethod("main", String[].class).invoke(null, (Object) new String[0]);
        } finally {
            System.setOut(before);
        }
        return caught.toString(StandardCharsets.UTF_8).lines().toList();
    }
}
