import java.io.File;
import java.io.IOException;
import java.lang.reflect.Method;
import java.lang.reflect.Modifier;
import java.net.URL;
import java.net.URLClassLoader;
import java.nio.file.Files;
import java.nio.file.Path;
import java.util.ArrayList;
import java.util.List;
import java.util.function.LongConsumer;
import java.util.regex.Matcher;
import java.util.regex.Pattern;
import java.util.stream.Stream;
import javax.tools.JavaCompiler;
import javax.tools.ToolProvider;

/** README.md's example answers what its remarks say, and README.md names every call and every test. */
public final class ReadmeTest {
    private static final Pattern EXAMPLE = Pattern.compile("(?s)```java\n(.*?)```");
    private static final Pattern ANSWERED = Pattern.compile("(?:int|long) (\\w+) = .*; +// (-?\\d+): .*");
    private static final Pattern DECLARED = Pattern.compile("(?:int|long) \\w+ = .*");

    public static void main(String[] args) throws Exception {
        Due due = new Due("ReadmeTest");
        Path root = Path.of(System.getProperty("source", "src/main/java/LightChecks.java")).toAbsolutePath().resolve("../../../..").normalize();
        String readme = Files.readString(root.resolve("README.md"));
        example(due, readme);
        calls(due, readme);
        due.holds("where the document lies", readme.contains("`../shared/DOC.md`"));
        due.holds("how an object is made", readme.contains("`new LightChecks()`"));
        due.holds("how the tests are run", readme.contains("```sh\n.ci/run\n```"));
        tests(due, readme, root.resolve("src/test/java"));
        due.end();
    }

    private static void example(Due due, String readme) throws Exception {
        Matcher block = EXAMPLE.matcher(readme);
        due.holds("there is an example", block.find());
        List<String> lines = block.group(1).lines().toList();
        List<String> asked = new ArrayList<>();
        List<Long> answers = new ArrayList<>();
        StringBuilder body = new StringBuilder();
        for (String line : lines) {
            body.append(line).append('\n');
            Matcher answered = ANSWERED.matcher(line);
            if (answered.matches()) {
                asked.add(line);
                answers.add(Long.parseLong(answered.group(2)));
                body.append("heard.accept(").append(answered.group(1)).append(");\n");
            } else {
                due.holds("its answer is told: " + line, !DECLARED.matcher(line).matches());
            }
        }
        List<Long> heard = new ArrayList<>();
        run(body.toString(), heard::add);
        due.is("as many answers as are told", heard.size(), answers.size());
        for (int i = 0; i < heard.size(); i++) {
            due.is(asked.get(i), heard.get(i), answers.get(i));
        }
    }

    private static void run(String body, LongConsumer heard) throws Exception {
        Path folder = Files.createTempDirectory("readme");
        Path file = folder.resolve("Example.java");
        Path made = folder.resolve("Example.class");
        try {
            Files.writeString(file, "public final class Example {\n    public static void run(java.util.function.LongConsumer heard) {\n"
                + body + "    }\n}\n");
            JavaCompiler compiler = ToolProvider.getSystemJavaCompiler();
            int failed = compiler.run(null, null, null, "-cp", System.getProperty("java.class.path"), "-d", folder.toString(), file.toString());
            if (failed != 0) {
                throw new IOException("the example of README.md does not compile");
            }
            try (URLClassLoader loader = new URLClassLoader(new URL[] {folder.toUri().toURL()})) {
                loader.loadClass("Example").getMethod("run", LongConsumer.class).invoke(null, heard);
            }
        } finally {
            Files.deleteIfExists(made);
            Files.deleteIfExists(file);
            Files.deleteIfExists(folder);
        }
    }

    private static void calls(Due due, String readme) {
        for (Method m : LightChecks.class.getDeclaredMethods()) {
            if (Modifier.isPublic(m.getModifiers())) {
                String arguments = "[^,)]+(, [^,)]+){" + (m.getParameterCount() - 1) + "}";
                due.holds("a row for " + m.getName(),
                    Pattern.compile("(?m)^\\|.*`" + m.getName() + "\\(" + arguments + "\\)`.*\\|.*\\|$").matcher(readme).find());
            }
        }
    }

    private static void tests(Due due, String readme, Path folder) throws IOException {
        try (Stream<Path> files = Files.list(folder)) {
            for (Path file : files.toList()) {
                String name = new File(file.toString()).getName().replace(".java", "");
                due.holds("a row for " + name, !name.endsWith("Test") || readme.contains("| `" + name + "` |"));
            }
        }
    }
}
