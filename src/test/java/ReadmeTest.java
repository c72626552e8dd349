import java.io.IOException;
import java.lang.invoke.MethodHandles;
import java.lang.reflect.Method;
import java.nio.file.Files;
import java.nio.file.Path;
import java.util.ArrayList;
import java.util.List;
import java.util.regex.Matcher;
import java.util.regex.Pattern;
import java.util.stream.Stream;
import javax.tools.JavaCompiler;
import javax.tools.ToolProvider;

/**
 * The examples of README.md, taken from there, so that the words and the answers that stand in it
 * are those that are tested.
 */
public final class ReadmeTest {
    private static final Path README = Path.of("README.md");
    private static final Pattern EXAMPLE = Pattern.compile("(?s)```java\n(.*?)```");
    private static final String MAKING = "BankLinker x = new BankLinker();";
    private static final Pattern CALL = Pattern.compile("(int \\w+ = )?(x\\.\\w+\\([^()]*\\)); *// (-?\\d+|[A-Z]+)(: .+)?");
    private static final String MADE = "ReadmeExamples";

    public static void main(String[] args) throws Exception {
        String text = Files.readString(README).replace("\r\n", "\n");
        theTestsAreNamed(text);
        List<String> examples = examplesOf(text);
        theFaceIsShown(text, String.join("\n", examples));
        Class<?> made = compiled(sourceOf(examples));
        for (int i = 0; made != null && i < examples.size(); i++) {
            Due.sentence("README.md, example " + (i + 1));
            made.getDeclaredMethod("example" + i).invoke(null);
        }
        Due.finish();
    }

    /** What the examples call: the answer that README.md tells is the one that is due. */
    static int asked(String call, int got, int due) {
        Due.due(call, got, due);
        return got;
    }

    private static void theTestsAreNamed(String text) throws IOException {
        Due.due("README.md names .ci/run", text.contains("```sh\n.ci/run\n```") ? 1 : 0, 1);
        try (Stream<Path> files = Files.list(Path.of("src/test/java"))) {
            for (Path file : files.toList()) {
                String name = file.getFileName().toString().replace(".java", "");
                Due.due("README.md names " + name, text.contains("`" + name + "`") ? 1 : 0, 1);
            }
        }
    }

    private static void theFaceIsShown(String text, String examples) {
        for (Method m : BankLinker.class.getMethods()) {
            if (m.getDeclaringClass() != BankLinker.class) continue;
            Due.due("README.md tells of " + m.getName(), text.contains("| `" + m.getName() + "(") ? 1 : 0, 1);
            Due.due("an example calls " + m.getName(), examples.contains("x." + m.getName() + "(") ? 1 : 0, 1);
        }
    }

    private static List<String> examplesOf(String text) {
        List<String> examples = new ArrayList<>();
        Matcher m = EXAMPLE.matcher(text);
        while (m.find()) examples.add(m.group(1));
        return examples;
    }

    private static String sourceOf(List<String> examples) {
        StringBuilder source = new StringBuilder("final class " + MADE + " {\n");
        for (int i = 0; i < examples.size(); i++) {
            source.append("static void example").append(i).append("() {\n");
            for (String line : examples.get(i).split("\n")) source.append(askedIn(line)).append('\n');
            source.append("}\n");
        }
        return source.append("}\n").toString();
    }

    /** A line that tells no answer would be shown but not tested, so it is refused. */
    private static String askedIn(String line) {
        if (line.isBlank() || line.equals(MAKING)) return line;
        Matcher m = CALL.matcher(line);
        boolean told = m.matches();
        Due.due("README.md tells an answer in: " + line, told ? 1 : 0, 1);
        if (!told) return "";
        String kept = m.group(1) == null ? "" : m.group(1);
        String due = Character.isUpperCase(m.group(3).charAt(0)) ? "BankLinker." + m.group(3) : m.group(3);
        return kept + "ReadmeTest.asked(\"" + m.group(2) + "\", " + m.group(2) + ", " + due + ");";
    }

    private static Class<?> compiled(String source) throws Exception {
        JavaCompiler compiler = ToolProvider.getSystemJavaCompiler();
        Path folder = Files.createTempDirectory("readme");
        Path file = folder.resolve(MADE + ".java");
        Path result = folder.resolve(MADE + ".class");
        try {
            Files.writeString(file, source);
            int exit = compiler == null ? -1 : compiler.run(null, null, null,
                    "-cp", System.getProperty("java.class.path"), "-d", folder.toString(), file.toString());
            Due.due("javac takes the examples of README.md", exit, 0);
            // In this class's own package, since the classes that the examples use are not public.
            return exit == 0 ? MethodHandles.lookup().defineClass(Files.readAllBytes(result)) : null;
        } finally {
            Files.deleteIfExists(file);
            Files.deleteIfExists(result);
            Files.deleteIfExists(folder);
        }
    }
}
