import java.io.ByteArrayOutputStream;
import java.io.PrintStream;
import java.net.URI;
import java.net.URL;
import java.net.URLClassLoader;
import java.nio.file.Files;
import java.nio.file.Path;
import java.util.ArrayList;
import java.util.List;
import javax.tools.JavaCompiler;
import javax.tools.SimpleJavaFileObject;
import javax.tools.ToolProvider;

/** The example in README.md compiles, and prints what stands behind "prints" there. */
public final class ReadmeTest {
    private static final Checks CHECKS = new Checks();
    private static final String PRINTS = "// prints ";

    public static void main(String[] args) throws Exception {
        List<String> example = example();
        List<String> due = new ArrayList<>();
        for (String line : example) {
            if (line.contains(PRINTS)) {
                due.add(line.substring(line.indexOf(PRINTS) + PRINTS.length()));
            }
        }
        CHECKS.holds("the example tells something that it prints", !due.isEmpty());
        CHECKS.equal("the example", printed(example).toString(), due.toString());
        CHECKS.end();
    }

    private static List<String> example() throws Exception {
        List<String> lines = Files.readAllLines(Path.of("README.md"));
        int from = lines.indexOf("```java") + 1;
        int to = from + lines.subList(from, lines.size()).indexOf("```");
        return lines.subList(from, to);
    }

    private static List<String> printed(List<String> example) throws Exception {
        Path out = Files.createTempDirectory("readme");
        try {
            compile(example, out);
            ByteArrayOutputStream text = new ByteArrayOutputStream();
            PrintStream before = System.out;
            System.setOut(new PrintStream(text, true));
            try (URLClassLoader loader = new URLClassLoader(new URL[] {out.toUri().toURL()})) {
                loader.loadClass("Example").getMethod("run").invoke(null);
            } finally {
                System.setOut(before);
            }
            return text.toString().lines().toList();
        } finally {
            Files.deleteIfExists(out.resolve("Example.class"));
            Files.deleteIfExists(out);
        }
    }

    private static void compile(List<String> example, Path out) {
        String source = "public class Example { public static void run() {\n"
                + String.join("\n", example) + "\n} }";
        SimpleJavaFileObject file = new SimpleJavaFileObject(
                URI.create("string:///Example.java"), SimpleJavaFileObject.Kind.SOURCE) {
            @Override
            public CharSequence getCharContent(boolean ignoreEncodingErrors) {
                return source;
            }
        };
        JavaCompiler compiler = ToolProvider.getSystemJavaCompiler();
        List<String> options = List.of("-d", out.toString(), "-cp", System.getProperty("java.class.path"));
        CHECKS.holds("the example compiles", compiler.getTask(null, null, null, options, null, List.of(file)).call());
    }
}
