import java.io.IOException;
import java.net.URL;
import java.net.URLClassLoader;
import java.nio.charset.StandardCharsets;
import java.nio.file.Files;
import java.nio.file.Path;
import java.util.ArrayList;
import java.util.List;
import java.util.regex.Matcher;
import java.util.regex.Pattern;
import javax.tools.ToolProvider;

/** What README.md shows of the class is compiled and run: each call that has an answer behind it must answer so. */
public final class ReadmeTest {
    private static final Pattern ANSWERED = Pattern.compile("(x\\..*\\));\\s+// (-?[0-9]+|true|false)");
    private static final String EXAMPLE = "ReadmeExample";

    public static void main(String[] args) throws IOException, ReflectiveOperationException {
        List<String> calls = new ArrayList<>();
        List<String> due = new ArrayList<>();
        String source = readExample(calls, due);
        List<?> got = run(source);
        Check.same("answers", got.size(), due.size());
        for (int i = 0; i < due.size() && i < got.size(); i++) {
            Check.same(calls.get(i), got.get(i), due.get(i));
        }
        Check.same("there are some", due.size() > 5, true);
        Check.end("ReadmeTest");
    }

    /** All blocks of Java one behind another, as one method that keeps the answers. */
    private static String readExample(List<String> calls, List<String> due) throws IOException {
        StringBuilder source = new StringBuilder("public final class " + EXAMPLE + " {\n"
                + "public static java.util.List<Object> answers() {\n"
                + "java.util.List<Object> answers = new java.util.ArrayList<>();\n");
        boolean isJava = false;
        for (String line : Files.readAllLines(Path.of("README.md"), StandardCharsets.UTF_8)) {
            Matcher answered = ANSWERED.matcher(line);
            if (line.startsWith("```")) {
                isJava = line.equals("```java");
            } else if (isJava && answered.matches()) {
                calls.add(answered.group(1));
                due.add(answered.group(2));
                source.append("answers.add(").append(answered.group(1)).append(");\n");
            } else if (isJava) {
                source.append(line).append('\n');
            }
        }
        return source.append("return answers;\n}\n}\n").toString();
    }

    private static List<?> run(String source) throws IOException, ReflectiveOperationException {
        Path directory = Files.createTempDirectory("readme");
        Path file = directory.resolve(EXAMPLE + ".java");
        Path compiled = directory.resolve(EXAMPLE + ".class");
        try {
            Files.writeString(file, source);
            int result = ToolProvider.getSystemJavaCompiler().run(null, null, null, "-d", directory.toString(),
                    "-cp", System.getProperty("java.class.path"), file.toString());
            Check.same("what the compiler says", result, 0);
            return result == 0 ? answersOf(directory) : List.of();
        } finally {
            Files.deleteIfExists(file);
            Files.deleteIfExists(compiled);
            Files.delete(directory);
        }
    }

    private static List<?> answersOf(Path directory) throws IOException, ReflectiveOperationException {
        try (URLClassLoader loader = new URLClassLoader(new URL[] {directory.toUri().toURL()})) {
            return (List<?>) loader.loadClass(EXAMPLE).getMethod("answers").invoke(null);
        }
    }
}
