import java.io.IOException;
import java.lang.reflect.Method;
import java.lang.reflect.Modifier;
import java.net.URL;
import java.net.URLClassLoader;
import java.nio.file.Files;
import java.nio.file.Path;
import java.util.List;
import java.util.function.BiConsumer;
import java.util.regex.Matcher;
import java.util.regex.Pattern;
import javax.tools.JavaCompiler;
import javax.tools.ToolProvider;

/** Runs the example of README.md, so that what it says of each answer is true; to be started where README.md is. */
public final class ReadmeTest {
    private static final Path README = Path.of("README.md");
    private static final Path OUT = Path.of("build", "readme");
    private static final String NAME = "ReadmeExample";
    private static final Pattern ANSWERED =
        Pattern.compile("(?:int (\\w+) = )?(x\\.\\w+\\(.*\\)); +// -> (true|false|-?\\d+)(?::.*)?");

    public static void main(String[] args) throws IOException, ReflectiveOperationException {
        Check check = new Check();
        List<String> example = example();
        for (Method m : SignQuorum.class.getDeclaredMethods()) {
            if (Modifier.isPublic(m.getModifiers())) {
                check.yes("README.md shows " + m.getName(),
                    example.stream().anyMatch(line -> line.contains("x." + m.getName() + "(")));
            }
        }
        run(sourceOf(check, example), check);
        check.end();
    }

    private static List<String> example() throws IOException {
        List<String> lines = Files.readAllLines(README);
        int from = lines.indexOf("```java") + 1;
        int to = from + lines.subList(from, lines.size()).indexOf("```");
        return lines.subList(from, to);
    }

    /** A class whose method makes the example's calls and hands each answer, as text, to the check. */
    private static String sourceOf(Check check, List<String> example) {
        StringBuilder source = new StringBuilder("public final class " + NAME + " {\n"
            + "public static void run(java.util.function.BiConsumer<String, Object> answer) {\n");
        for (String line : example) {
            Matcher m = ANSWERED.matcher(line);
            if (!m.matches()) {
                check.no("README.md has a call without its answer: " + line, line.contains("x."));
                source.append(line).append('\n');
            } else if (m.group(1) == null) {
                source.append(answered(m, m.group(2)));
            } else {
                source.append("int " + m.group(1) + " = " + m.group(2) + ";\n").append(answered(m, m.group(1)));
            }
        }
        return source.append("}\n}\n").toString();
    }

    private static String answered(Matcher m, String value) {
        return "answer.accept(\"" + m.group(2) + " -> " + m.group(3) + "\", " + value + ");\n";
    }

    private static void run(String source, Check check) throws IOException, ReflectiveOperationException {
        Files.createDirectories(OUT);
        Path file = Files.writeString(OUT.resolve(NAME + ".java"), source);
        JavaCompiler compiler = ToolProvider.getSystemJavaCompiler();
        int failed = compiler.run(null, null, null, "-cp", System.getProperty("java.class.path"),
            "-d", OUT.toString(), file.toString());
        check.same("the example's compiling", failed, 0);
        if (failed != 0) {
            return;
        }
        BiConsumer<String, Object> answer = (text, got) ->
            check.yes("README.md says " + text + ", the answer was " + got, text.endsWith(" -> " + got));
        try (URLClassLoader loader = new URLClassLoader(new URL[] {OUT.toUri().toURL()})) {
            loader.loadClass(NAME).getMethod("run", BiConsumer.class).invoke(null, answer);
        }
    }
}
