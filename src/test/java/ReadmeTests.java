import java.io.IOException;
import java.lang.reflect.Method;
import java.lang.reflect.Modifier;
import java.net.URI;
import java.net.URL;
import java.net.URLClassLoader;
import java.nio.file.Files;
import java.nio.file.Path;
import java.util.ArrayList;
import java.util.List;
import java.util.Map;
import java.util.regex.Matcher;
import java.util.regex.Pattern;
import javax.tools.ToolProvider;

// The lines of README.md that show the class in use are compiled and run, and each answer
// in their comments is compared, so that the README never tells what the class does not do.
public final class ReadmeTests extends Checks {
    private static final Path README = Path.of("README.md");
    private static final Pattern ANSWER = Pattern.compile("int (\\w+) = .*; +// (-?\\d+)\\b.*");

    private static List<String> linesOfUse() throws IOException {
        List<String> use = new ArrayList<>();
        boolean inside = false;
        for (String line : Files.readAllLines(README)) {
            if (line.startsWith("```")) {
                inside = line.equals("```java");
            } else if (inside) {
                use.add(line);
            }
        }
        return use;
    }

    private static Map<?, ?> answersOf(List<String> use) throws Exception {
        StringBuilder text = new StringBuilder("public final class ReadmeUse {\n"
                + "public static java.util.Map<String, Integer> answers() {\n"
                + "java.util.Map<String, Integer> answers = new java.util.TreeMap<>();\n");
        for (String line : use) {
            text.append(line).append('\n');
            Matcher answer = ANSWER.matcher(line);
            if (answer.matches()) {
                String name = answer.group(1);
                text.append("answers.put(\"" + name + "\", " + name + ");\n");
            }
        }
        text.append("return answers;\n}\n}\n");
        Path folder = Files.createTempDirectory("readme");
        Path source = folder.resolve("ReadmeUse.java");
        Path made = folder.resolve("ReadmeUse.class");
        try {
            Files.writeString(source, text);
            int failed = ToolProvider.getSystemJavaCompiler().run(null, null, null,
                    "-cp", System.getProperty("java.class.path"), "-d", folder.toString(), source.toString());
            due("compiling the lines of use", 0, () -> failed);
            return failed == 0 ? answersOfClassIn(folder.toUri()) : Map.of();
        } finally {
            Files.deleteIfExists(made);
            Files.deleteIfExists(source);
            Files.deleteIfExists(folder);
        }
    }

    private static Map<?, ?> answersOfClassIn(URI folder) throws Exception {
        try (URLClassLoader loader = new URLClassLoader(new URL[] {folder.toURL()})) {
            return (Map<?, ?>) loader.loadClass("ReadmeUse").getMethod("answers").invoke(null);
        }
    }

    private static void answersAreAsWritten(List<String> use) throws Exception {
        under("README.md, the lines of use");
        Map<?, ?> answers = answersOf(use);
        for (String line : use) {
            if (line.startsWith("int ")) {
                Matcher written = ANSWER.matcher(line);
                boolean told = written.matches();
                compare(line + " (has its answer)", "true", Boolean.toString(told));
                if (told) {
                    compare(line, written.group(2), String.valueOf(answers.get(written.group(1))));
                }
            }
        }
    }

    private static void everyCallIsShown(List<String> use) {
        under("README.md, every call of the face is shown");
        String text = String.join("\n", use);
        for (Method m : DayCutPlans.class.getDeclaredMethods()) {
            if (Modifier.isPublic(m.getModifiers())) {
                compare(m.getName(), "true", Boolean.toString(text.contains("mill." + m.getName() + "(")));
            }
        }
    }

    private static void testsAreNamed() throws IOException {
        under("README.md, the command and the tests");
        String text = Files.readString(README);
        compare("names .ci/run", "true", Boolean.toString(text.contains("\n    .ci/run\n")));
        try (var files = Files.newDirectoryStream(Path.of("src/test/java"), "*.java")) {
            for (Path file : files) {
                String name = file.getFileName().toString().replace(".java", "");
                compare("names " + name, "true", Boolean.toString(text.contains("`" + name + "`")));
            }
        }
    }

    public static void main(String[] args) throws Exception {
        List<String> use = linesOfUse();
        answersAreAsWritten(use);
        everyCallIsShown(use);
        testsAreNamed();
        end();
    }
}
