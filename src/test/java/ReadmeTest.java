import java.io.IOException;
import java.net.URL;
import java.net.URLClassLoader;
import java.nio.file.Files;
import java.nio.file.Path;
import java.util.List;
import java.util.regex.Matcher;
import java.util.regex.Pattern;
import javax.tools.JavaCompiler;
import javax.tools.ToolProvider;

/** The calls in README.md answer what stands behind them: its Java blocks are put together, compiled and run. */
public final class ReadmeTest {
    private static final Check CHECK = new Check("ReadmeTest");
    private static final Pattern ROW =
            Pattern.compile("(int \\w+ = )?(rater\\..*);\\s+// ('.'|-?[0-9]+(?:\\.[0-9]+)?|[A-Z]\\w+Exception)(?:[ ,:].*)?");

    private static int rows;

    public static void main(String[] args) throws Exception {
        String program = program(Files.readAllLines(Path.of("README.md")));
        CHECK.is("README.md shows calls", 0, () -> rows > 0 ? 0 : 1);
        Path made = Files.createTempDirectory("readme");
        Path source = made.resolve("Readme.java");
        Files.writeString(source, program);
        JavaCompiler compiler = ToolProvider.getSystemJavaCompiler();
        int result = compiler.run(null, null, null, "-cp", System.getProperty("java.class.path"),
                "-d", made.toString(), source.toString());
        CHECK.is("README.md's Java compiles", 0, () -> result);
        if (result == 0) {
            run(made);
        }
        clear(made);
        CHECK.end();
    }

    /** A call by which the program of README.md tells an answer. */
    public static void answer(String call, String due, Object got) {
        CHECK.reads(call, due, due.startsWith("'") ? "'" + got + "'" : String.valueOf(got));
    }

    private static String program(List<String> lines) {
        StringBuilder text = new StringBuilder("public class Readme {\n    public static void run() {\n");
        boolean isJava = false;
        for (String line : lines) {
            if (line.startsWith("```")) {
                isJava = line.equals("```java");
            } else if (isJava) {
                text.append(translated(line)).append('\n');
            }
        }
        return text.append("    }\n}\n").toString();
    }

    private static String translated(String line) {
        Matcher row = ROW.matcher(line);
        if (!row.matches()) {
            CHECK.is("an answer behind " + line, 0, () -> line.startsWith("rater.") || line.startsWith("int ") ? 1 : 0);
            return line;
        }
        rows++;
        String call = row.group(2);
        String told = "ReadmeTest.answer(\"" + call + "\", \"" + row.group(3) + "\", ";
        if (row.group(3).endsWith("Exception")) {
            return "try { " + told + call + "); } catch (RuntimeException thrown) { "
                    + told + "thrown.getClass().getSimpleName()); }";
        }
        if (row.group(1) != null) {
            String name = row.group(1).split(" ")[1];
            return row.group(1) + call + "; " + told + name + ");";
        }
        return told + call + ");";
    }

    private static void run(Path made) throws Exception {
        URL[] from = {made.toUri().toURL()};
        try (URLClassLoader loader = new URLClassLoader(from, ReadmeTest.class.getClassLoader())) {
            loader.loadClass("Readme").getMethod("run").invoke(null);
        }
    }

    private static void clear(Path made) throws IOException {
        Files.deleteIfExists(made.resolve("Readme.java"));
        Files.deleteIfExists(made.resolve("Readme.class"));
        Files.deleteIfExists(made);
    }
}
