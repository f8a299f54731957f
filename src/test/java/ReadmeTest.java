import java.io.IOException;
import java.lang.reflect.Field;
import java.lang.reflect.Method;
import java.lang.reflect.Modifier;
import java.net.URL;
import java.net.URLClassLoader;
import java.nio.file.DirectoryStream;
import java.nio.file.Files;
import java.nio.file.Path;
import java.util.regex.Matcher;
import java.util.regex.Pattern;
import javax.tools.JavaCompiler;
import javax.tools.ToolProvider;

/** README.md: its example answers what it says, and it names each call, constant and test. */
public final class ReadmeTest {
    private static final int FEWEST_ANSWERS = 25;
    private static final Pattern ANSWER = Pattern.compile("(?m)^ *(group\\.[^;\n]*); +// (-?\\d+|RepairDuty\\.\\w+)");

    public static void main(String[] args) throws Exception {
        String page = Files.readString(Path.of("README.md"));
        names(page);
        tests(page);
        example(page);
        Checks.end();
    }

    private static void names(String page) {
        for (Method method : RepairDuty.class.getDeclaredMethods()) {
            if (Modifier.isPublic(method.getModifiers())) {
                Checks.holds("the page names " + method.getName(), page.contains("`" + method.getName() + "`"));
            }
        }
        for (Field field : RepairDuty.class.getDeclaredFields()) {
            if (Modifier.isPublic(field.getModifiers())) {
                Checks.holds("the page names " + field.getName(), page.contains("`" + field.getName() + "`"));
            }
        }
    }

    private static void tests(String page) throws IOException {
        try (DirectoryStream<Path> files = Files.newDirectoryStream(Path.of("src/test/java"), "*Test.java")) {
            for (Path file : files) {
                String name = file.getFileName().toString().replace(".java", "");
                Checks.holds("the page lists " + name, page.contains("| " + name + " |"));
            }
        }
    }

    private static void example(String page) throws Exception {
        int start = page.indexOf("```java\n");
        int end = page.indexOf("```", start + 3);
        Checks.holds("the page has an example", start >= 0 && end > start);
        if (start >= 0 && end > start) {
            String plain = page.substring(start + "```java\n".length(), end);
            Matcher answers = ANSWER.matcher(plain);
            Checks.holds("the example tells its answers", answers.results().count() >= FEWEST_ANSWERS);
            run(checked(answers.reset()));
        }
    }

    /** The example, where each call throws if it does not answer what is told behind it. */
    private static String checked(Matcher answers) {
        return answers.replaceAll(call -> Matcher.quoteReplacement(
            "if (" + call.group(1) + " != " + call.group(2) + ") { throw new IllegalStateException(\""
                + call.group(1).replace("\"", "\\\"") + " does not answer " + call.group(2) + "\"); } //"));
    }

    private static void run(String source) throws Exception {
        Path folder = Files.createTempDirectory("readme");
        try {
            Path file = Files.writeString(folder.resolve("Example.java"), source);
            JavaCompiler compiler = ToolProvider.getSystemJavaCompiler();
            int failed = compiler.run(null, null, null, "-cp", System.getProperty("java.class.path"),
                "-d", folder.toString(), file.toString());
            Checks.due("the example compiles", failed, 0);
            if (failed == 0) {
                call(folder);
            }
        } finally {
            for (String left : new String[] {"Example.class", "Example.java", ""}) {
                Files.deleteIfExists(folder.resolve(left));
            }
        }
    }

    private static void call(Path folder) throws Exception {
        try (URLClassLoader loader = new URLClassLoader(new URL[] {folder.toUri().toURL()})) {
            loader.loadClass("Example").getMethod("main", String[].class).invoke(null, (Object) new String[0]);
        }
    }
}
