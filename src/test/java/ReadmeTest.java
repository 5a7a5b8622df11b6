import java.io.File;
import java.io.IOException;
import java.net.URL;
import java.net.URLClassLoader;
import java.nio.file.Files;
import java.nio.file.Path;
import java.util.ArrayList;
import java.util.List;
import java.util.regex.Matcher;
import java.util.regex.Pattern;
import javax.tools.ToolProvider;

/** The examples of README.md: each one compiles, and each line with a value behind it answers that value. */
public final class ReadmeTest extends Check {
    private static final Pattern EXAMPLE = Pattern.compile("```java\n(.*?)```", Pattern.DOTALL);
    private static final Pattern ANSWER = Pattern.compile("\\w+ (\\w+) = .*; +// ('.'|-?\\d+|true|false)");

    public static void main(String[] args) throws Exception {
        List<String> examples = new ArrayList<>();
        Matcher example = EXAMPLE.matcher(Files.readString(Path.of("README.md")));
        while (example.find()) {
            examples.add(example.group(1));
        }
        due("README: examples", examples.size(), 3);
        Path directory = Files.createTempDirectory("readme");
        for (int i = 0; i < examples.size(); i++) {
            run(directory, "Example" + i, examples.get(i));
        }
        for (File file : directory.toFile().listFiles()) {
            file.delete();
        }
        Files.delete(directory);
        end();
    }

    /** Each answer of an example is told as a pair: what came out, and what stands behind the line. */
    private static String source(String name, String example) {
        StringBuilder all = new StringBuilder("public class " + name + " {\npublic static java.util.List<Object> answers() {\n");
        all.append("java.util.List<Object> answers = new java.util.ArrayList<>();\n");
        for (String line : example.split("\n")) {
            all.append(line).append('\n');
            Matcher answer = ANSWER.matcher(line);
            if (answer.matches()) {
                all.append("answers.add(" + answer.group(1) + ");\nanswers.add(" + answer.group(2) + ");\n");
            }
        }
        return all.append("return answers;\n}\n}\n").toString();
    }

    private static void run(Path directory, String name, String example) throws IOException, ReflectiveOperationException {
        Path file = directory.resolve(name + ".java");
        Files.writeString(file, source(name, example));
        String path = System.getProperty("java.class.path");
        int code = ToolProvider.getSystemJavaCompiler().run(null, null, null, "-cp", path, "-d", directory.toString(), file.toString());
        due("README: " + name + " compiles", code, 0);
        if (code != 0) {
            return;
        }
        try (URLClassLoader loader = new URLClassLoader(new URL[] {directory.toUri().toURL()})) {
            List<?> answers = (List<?>) loader.loadClass(name).getMethod("answers").invoke(null);
            due("README: " + name + " has answers", answers.size() >= 4, true);
            for (int i = 0; i + 1 < answers.size(); i += 2) {
                due("README: " + name + ", answer " + i / 2, answers.get(i), answers.get(i + 1));
            }
        }
    }
}
