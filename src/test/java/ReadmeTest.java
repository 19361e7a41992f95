import java.io.ByteArrayOutputStream;
import java.io.IOException;
import java.io.PrintStream;
import java.lang.reflect.Method;
import java.lang.reflect.Modifier;
import java.nio.charset.StandardCharsets;
import java.nio.file.DirectoryStream;
import java.nio.file.Files;
import java.nio.file.Path;

/** README.md says how to use the class, with an example that runs, and names every call, limit and test. */
final class ReadmeTest {
    private static final Check CHECK = new Check("ReadmeTest");
    private static final String[] LIMITS = {
        "512 calls", "100 bytes", "300 bytes", "400 bytes", "470 bytes", "four messages",
    };

    public static void main(String[] args) throws IOException {
        // A line may break within the words that are looked for.
        String readme = Files.readString(Path.of("README.md"));
        String inOneLine = readme.replaceAll("\\s+", " ");
        example(readme);
        calls(inOneLine);
        for (String limit : LIMITS) {
            CHECK.same("README.md tells the limit of " + limit, true, inOneLine.contains(limit));
        }
        tests(readme);
        CHECK.end();
    }

    private static void example(String readme) throws IOException {
        String source = Files.readString(Path.of("src/test/java/Example.java"));
        String body = source.substring(source.indexOf("/** A short talk"));
        CHECK.same("README.md shows the example as it is", true, readme.contains("```java\n" + body + "```"));
        CHECK.same("README.md shows what it prints", true, readme.contains("```text\n" + printed() + "```"));
    }

    private static String printed() {
        PrintStream before = System.out;
        ByteArrayOutputStream printed = new ByteArrayOutputStream();
        System.setOut(new PrintStream(printed, true, StandardCharsets.UTF_8));
        try {
            Example.main(new String[0]);
        } finally {
            System.setOut(before);
        }
        return printed.toString(StandardCharsets.UTF_8).replaceAll("\\R", "\n");
    }

    private static void calls(String readme) {
        for (Method method : FramedTalk.class.getDeclaredMethods()) {
            if (Modifier.isPublic(method.getModifiers())) {
                String name = method.getName();
                CHECK.same("README.md tells of " + name, true, readme.contains("| `" + name + "("));
                for (Class<?> thrown : method.getExceptionTypes()) {
                    String row = readme.replaceAll(".*(\\| `" + name + "\\([^`]*` \\|[^|]*\\|[^|]*\\|).*", "$1");
                    CHECK.same("README.md tells that " + name + " throws " + thrown.getSimpleName(), true,
                            row.contains(thrown.getSimpleName()));
                }
            }
        }
    }

    private static void tests(String readme) throws IOException {
        CHECK.same("README.md tells how the tests are run", true, readme.contains("```sh\n.ci/run\n```"));
        try (DirectoryStream<Path> files = Files.newDirectoryStream(Path.of("src/test/java"), "*Test.java")) {
            for (Path file : files) {
                String name = file.getFileName().toString().replace(".java", "");
                CHECK.same("README.md tells of " + name, true, readme.contains("`" + name + "`"));
            }
        }
    }
}
