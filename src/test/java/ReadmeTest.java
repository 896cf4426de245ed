import java.io.IOException;
import java.net.URL;
import java.net.URLClassLoader;
import java.nio.file.Files;
import java.nio.file.Path;
import java.util.List;
import java.util.regex.Matcher;
import java.util.regex.Pattern;
import javax.tools.JavaCompiler;
import javax.tools.ToolProvider;

/** The examples of README.md, compiled and run as they stand there: each call must give the answer behind its //. */
public final class ReadmeTest {
    private static final String NAME = "ReadmeExamples";
    private static final Pattern CALL = Pattern.compile("(x\\.(\\w+)\\(.*\\)); +// (\\S+).*");
    private static final int CALLS_LEAST = 50;
    private static final int CALLS_MOST = 512;

    private static final Check CHECK = new Check();

    private final StringBuilder methods = new StringBuilder();
    private final StringBuilder steps = new StringBuilder();
    private int calls;

    public static void main(String[] args) throws IOException, ReflectiveOperationException {
        ReadmeTest readme = new ReadmeTest();
        readme.read(Files.readAllLines(Path.of("README.md")));
        CHECK.due("README.md has examples", true, readme.calls >= CALLS_LEAST);
        CHECK.due("README.md has no more calls than one object answers", true, readme.calls <= CALLS_MOST);
        readme.run();
        CHECK.finish("ReadmeTest");
    }

    /** What the compiled examples tell of each of their calls. */
    public static void answer(String call, String want, Object got) {
        CHECK.due(call + " // " + want + ", and answered " + got, true, want.equals(String.valueOf(got)));
    }

    private void read(List<String> lines) {
        StringBuilder block = null;
        for (String line : lines) {
            if (line.equals("```java")) {
                block = new StringBuilder();
            } else if (line.equals("```") && block != null) {
                (block.indexOf("static ") == 0 ? methods : steps).append(block);
                block = null;
            } else if (block != null) {
                block.append(step(line)).append('\n');
            }
        }
    }

    private String step(String line) {
        Matcher call = CALL.matcher(line);
        if (!call.matches()) {
            CHECK.due("an answer is behind " + line, false, line.startsWith("x."));
            return line;
        }
        calls++;
        String told = "ReadmeTest.answer(\"" + call.group(1) + "\", \"" + call.group(3) + "\", ";
        return "try { " + told + call.group(1) + "); } catch (java.util.NoSuchElementException e) { "
                + told + "\"NoSuchElementException\"); }";
    }

    private void run() throws IOException, ReflectiveOperationException {
        Path folder = Files.createTempDirectory(NAME);
        Path source = folder.resolve(NAME + ".java");
        Files.writeString(source, "public final class " + NAME + " {\n" + methods
                + "public static void run() {\n" + steps + "}\n}\n");
        JavaCompiler compiler = ToolProvider.getSystemJavaCompiler();
        String path = System.getProperty("java.class.path");
        int failed = compiler.run(null, null, null, "-d", folder.toString(), "-cp", path, source.toString());
        CHECK.due("the examples compile", 0, failed);
        if (failed == 0) {
            load(folder);
        }
        Files.deleteIfExists(folder.resolve(NAME + ".class"));
        Files.deleteIfExists(source);
        Files.deleteIfExists(folder);
    }

    private static void load(Path folder) throws IOException, ReflectiveOperationException {
        URL[] from = {folder.toUri().toURL()};
        try (URLClassLoader loader = new URLClassLoader(from, ReadmeTest.class.getClassLoader())) {
            loader.loadClass(NAME).getMethod("run").invoke(null);
        }
    }
}
