import java.io.ByteArrayOutputStream;
import java.io.File;
import java.io.IOException;
import java.io.PrintStream;
import java.nio.charset.StandardCharsets;
import java.nio.file.Files;
import java.nio.file.Path;

/** What README.md says is so: its example is Example.java and prints what stands there, its table has all tests. */
public final class ReadmeTest {
    private static final Path TESTS = Path.of("src/test/java");

    public static void main(String[] args) throws IOException {
        String readme = Files.readString(Path.of("README.md"));
        Expect.same("the example", Files.readString(TESTS.resolve("Example.java")), block(readme, "```java\n"));
        Expect.same("what the example prints", printed(), block(readme, "prints\n\n```text\n"));
        Expect.that("how the tests are run", readme.contains("\n    .ci/run\n") && Files.isExecutable(Path.of(".ci/run")));
        for (File file : TESTS.toFile().listFiles()) {
            String name = file.getName().replace(".java", "");
            Expect.that("the table has " + name, !name.endsWith("Test") || readme.contains(name));
        }
        Expect.finish();
    }

    /** What stands between a line and the end of its block. */
    private static String block(String readme, String before) {
        int begin = readme.indexOf(before) + before.length();
        return readme.contains(before) ? readme.substring(begin, readme.indexOf("```", begin)) : "";
    }

    private static String printed() {
        PrintStream screen = System.out;
        ByteArrayOutputStream bytes = new ByteArrayOutputStream();
        System.setOut(new PrintStream(bytes, true, StandardCharsets.UTF_8));
        Example.main(new String[0]);
        System.setOut(screen);
        return bytes.toString(StandardCharsets.UTF_8).replace(System.lineSeparator(), "\n");
    }
}
