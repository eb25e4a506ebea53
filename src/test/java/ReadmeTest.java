import java.io.IOException;
import java.net.URL;
import java.net.URLClassLoader;
import java.nio.file.Files;
import java.nio.file.Path;
import java.util.ArrayList;
import java.util.List;
import java.util.regex.Matcher;
import java.util.regex.Pattern;
import javax.tools.ToolProvider;

/** The example of README.md compiles, and each of its calls answers what stands behind it. */
public final class ReadmeTest {
    private static final Check CHECK = new Check();
    private static final Pattern ANSWERED = Pattern.compile("(heap\\..*\\));\\s+// (-?\\d+|true|false)\\b.*");

    public static void main(String[] args) throws IOException, ReflectiveOperationException {
        Path out = Files.createTempDirectory("readme");
        try {
            runExample(example(Files.readString(Path.of("README.md"))), out);
        } finally {
            Files.deleteIfExists(out.resolve("Example.class"));
            Files.deleteIfExists(out.resolve("Example.java"));
            Files.delete(out);
        }
        CHECK.finish();
    }

    private static List<String> example(String readme) {
        int from = readme.indexOf("```java\n") + "```java\n".length();
        return readme.substring(from, readme.indexOf("```", from)).lines().toList();
    }

    private static void runExample(List<String> lines, Path out) throws IOException, ReflectiveOperationException {
        StringBuilder program = new StringBuilder("import java.util.List;\npublic final class Example {\n");
        program.append("public static void run(List<Object> answers) {\n");
        List<String> calls = new ArrayList<>();
        List<String> due = new ArrayList<>();
        for (String line : lines) {
            Matcher answered = ANSWERED.matcher(line);
            if (answered.matches()) {
                program.append("answers.add(").append(answered.group(1)).append(");\n");
                calls.add(answered.group(1));
                due.add(answered.group(2));
            } else {
                program.append(line).append('\n');
            }
        }
        program.append("}\n}\n");
        List<Object> answers = answersOf(program.toString(), out);
        CHECK.equal("the example has answers", due.isEmpty(), false);
        CHECK.equal("answers", answers.size(), due.size());
        for (int i = 0; i < due.size(); i++) {
            CHECK.equal(calls.get(i), answers.get(i).toString(), due.get(i));
        }
    }

    private static List<Object> answersOf(String program, Path out) throws IOException, ReflectiveOperationException {
        Path source = Files.writeString(out.resolve("Example.java"), program);
        int compiled = ToolProvider.getSystemJavaCompiler().run(null, null, null, "-d", out.toString(),
            "-cp", System.getProperty("java.class.path"), source.toString());
        CHECK.equal("the example compiles", compiled, 0);
        List<Object> answers = new ArrayList<>();
        try (URLClassLoader loader = new URLClassLoader(new URL[] {out.toUri().toURL()})) {
            loader.loadClass("Example").getMethod("run", List.class).invoke(null, answers);
        }
        return answers;
    }
}
