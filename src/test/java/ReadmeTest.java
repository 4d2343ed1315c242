import java.io.IOException;
import java.net.URL;
import java.net.URLClassLoader;
import java.nio.file.Files;
import java.nio.file.Path;
import java.util.ArrayList;
import java.util.List;
import java.util.Map;
import java.util.regex.Matcher;
import java.util.regex.Pattern;
import javax.tools.ToolProvider;

/** The examples of README.md, as they stand there, compile and answer the numbers that their comments begin with. */
final class ReadmeTest {
    private static final Pattern ANSWER = Pattern.compile("\\s*(?:int|long) (\\w+) = .*;\\s*// (-?\\d+)\\b.*");

    private static final Due due = new Due("readme");

    public static void main(String[] args) throws IOException, ReflectiveOperationException {
        List<List<String>> examples = examplesIn(Files.readAllLines(Path.of("README.md")));
        due.is("README.md has examples", examples.isEmpty() ? 0 : 1, 1);
        Path folder = Files.createTempDirectory("readme");
        for (int i = 0; i < examples.size(); i++) {
            runExample(folder, "Example" + i, examples.get(i));
        }
        Files.delete(folder);
        due.end();
    }

    private static List<List<String>> examplesIn(List<String> lines) {
        List<List<String>> examples = new ArrayList<>();
        boolean inside = false;
        for (String line : lines) {
            if (line.equals("```java")) {
                inside = true;
                examples.add(new ArrayList<>());
            } else if (line.startsWith("```")) {
                inside = false;
            } else if (inside) {
                examples.get(examples.size() - 1).add(line);
            }
        }
        return examples;
    }

    private static void runExample(Path folder, String name, List<String> lines)
            throws IOException, ReflectiveOperationException {
        Path source = folder.resolve(name + ".java");
        Path compiled = folder.resolve(name + ".class");
        Files.write(source, programOf(name, lines));
        int code = ToolProvider.getSystemJavaCompiler().run(null, null, null, "-d", folder.toString(),
            "-cp", System.getProperty("java.class.path"), source.toString());
        due.is(name + " compiles", code, 0);
        if (code == 0) {
            compareAnswers(name, lines, answersOf(folder, name));
        }
        Files.delete(source);
        Files.deleteIfExists(compiled);
    }

    /** The example as it is, but for a note of each answer behind the line that tells what it has to be. */
    private static List<String> programOf(String name, List<String> lines) {
        List<String> program = new ArrayList<>();
        program.add("public final class " + name + " {");
        program.add("public static java.util.Map<String, Long> run() {");
        program.add("java.util.Map<String, Long> noted = new java.util.HashMap<>();");
        for (String line : lines) {
            program.add(line);
            Matcher answer = ANSWER.matcher(line);
            if (answer.matches()) {
                program.add("noted.put(\"" + answer.group(1) + "\", (long) " + answer.group(1) + ");");
            }
        }
        program.add("return noted; } }");
        return program;
    }

    private static Map<?, ?> answersOf(Path folder, String name) throws IOException, ReflectiveOperationException {
        URL[] places = {folder.toUri().toURL()};
        try (URLClassLoader loader = new URLClassLoader(places, ReadmeTest.class.getClassLoader())) {
            return (Map<?, ?>) loader.loadClass(name).getMethod("run").invoke(null);
        }
    }

    private static void compareAnswers(String name, List<String> lines, Map<?, ?> noted) {
        int told = 0;
        for (String line : lines) {
            Matcher answer = ANSWER.matcher(line);
            if (answer.matches()) {
                told++;
                Object got = noted.get(answer.group(1));
                due.is(name + ": " + answer.group(1) + " was reached", got instanceof Long ? 1 : 0, 1);
                due.is(name + ": " + line.trim(), got instanceof Long number ? number : 0,
                    Long.parseLong(answer.group(2)));
            }
        }
        due.is(name + " tells answers", told > 0 ? 1 : 0, 1);
    }
}
