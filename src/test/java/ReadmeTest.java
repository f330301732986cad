import java.io.IOException;
import java.net.URL;
import java.net.URLClassLoader;
import java.nio.file.Files;
import java.nio.file.Path;
import java.util.List;
import java.util.regex.Matcher;
import java.util.regex.Pattern;
import javax.tools.ToolProvider;

/** The example in README.md compiles, and each call in it answers what stands behind it. */
public final class ReadmeTest {
    private static final Pattern LINE =
            Pattern.compile("(?:int \\w+ = )?(plans\\.(\\w+)\\(.*\\)); +// answers ([-\\w]+)(?::.*)?");

    private static int answers = 0;

    public static void main(String[] args) throws Exception {
        List<String> lines = Files.readAllLines(Path.of("README.md"));
        int from = lines.indexOf("```java") + 1;
        int to = from + lines.subList(from, lines.size()).indexOf("```");
        Due.yes("README.md has an example", from > 0 && to > from);
        Due.end();
        run(program(lines.subList(from, to)));
        Due.yes("README.md names 20 answers or more", answers >= 20);
        Due.end();
    }

    private static String program(List<String> example) {
        StringBuilder text = new StringBuilder("public final class Example implements Runnable {\n");
        text.append("public void run() {\n");
        for (String line : example) {
            text.append(checked(line)).append('\n');
        }
        return text.append("}\n}\n").toString();
    }

    /** The line, with its answer kept and held against the one that it names. */
    private static String checked(String line) {
        Matcher matcher = LINE.matcher(line);
        if (!matcher.matches()) {
            return line;
        }
        answers++;
        String kept = line.startsWith("int ") ? line.split(" ")[1] : "answer" + answers;
        return "var " + kept + " = " + matcher.group(1) + "; ReadmeTest.due(\""
                + matcher.group(2) + "\", String.valueOf(" + kept + "), \""
                + matcher.group(3) + "\");";
    }

    public static void due(String call, String got, String want) {
        Due.same("README.md, " + call, got, want);
    }

    private static void run(String program) throws IOException, ReflectiveOperationException {
        Path directory = Files.createTempDirectory("readme");
        Path source = directory.resolve("Example.java");
        try {
            Files.writeString(source, program);
            int code = compile(source, directory);
            Due.is("README.md's example, compiled", code, 0);
            if (code == 0) {
                callExample(directory);
            }
        } finally {
            Files.deleteIfExists(directory.resolve("Example.class"));
            Files.deleteIfExists(source);
            Files.deleteIfExists(directory);
        }
    }

    private static int compile(Path source, Path directory) {
        return ToolProvider.getSystemJavaCompiler().run(null, null, null,
                "-cp", System.getProperty("java.class.path"),
                "-d", directory.toString(), source.toString());
    }

    private static void callExample(Path directory) throws IOException, ReflectiveOperationException {
        URL[] places = {directory.toUri().toURL()};
        try (URLClassLoader loader = new URLClassLoader(places)) {
            Class<?> example = loader.loadClass("Example");
            ((Runnable) example.getConstructor().newInstance()).run();
        }
    }
}
