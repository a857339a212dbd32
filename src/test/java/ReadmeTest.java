import java.io.ByteArrayOutputStream;
import java.io.IOException;
import java.io.PrintStream;
import java.io.UncheckedIOException;
import java.lang.reflect.Method;
import java.lang.reflect.Modifier;
import java.nio.charset.StandardCharsets;
import java.nio.file.Files;
import java.nio.file.Path;

/** What README.md says of the use of the class holds. */
public final class ReadmeTest {
    private static final Checks CHECKS = new Checks("The README");
    private static final String FENCE = "```";

    public static void main(String[] args) {
        CHECKS.test("it shows the example", ReadmeTest::example);
        CHECKS.test("it says what the example prints", ReadmeTest::printed);
        CHECKS.test("it has a row for each call", ReadmeTest::calls);
        CHECKS.test("it names each test", ReadmeTest::tests);
        CHECKS.end();
    }

    private static void example() {
        CHECKS.dueTrue("the text of Example.java stands in it",
            textOf("README.md").contains(FENCE + "java\n" + textOf("src/test/java/Example.java") + FENCE));
    }

    private static void printed() {
        PrintStream before = System.out;
        ByteArrayOutputStream caught = new ByteArrayOutputStream();
        System.setOut(new PrintStream(caught, true, StandardCharsets.UTF_8));
        try {
            Example.main(new String[0]);
        } finally {
            System.setOut(before);
        }
        String printed = caught.toString(StandardCharsets.UTF_8).replace(System.lineSeparator(), "\n");
        CHECKS.dueTrue("what Example prints stands in it",
            textOf("README.md").contains(FENCE + "text\n" + printed + FENCE));
    }

    private static void calls() {
        for (Method method : SlowSeal.class.getDeclaredMethods()) {
            if (Modifier.isPublic(method.getModifiers())) {
                String commas = ", \\w+".repeat(method.getParameterCount() - 1);
                CHECKS.dueTrue("a row for " + method, textOf("README.md").lines()
                    .anyMatch(line -> line.matches("\\| `" + method.getName() + "\\(\\w+" + commas + "\\)` \\|.*")));
            }
        }
    }

    /** The promises' tests are named there from the first to the last one. */
    private static void tests() {
        String[] names = {
            "Promise01NewObjectTest", "Promise13SealTest", "FaceTest", "RoomTest", "RunsTest", "ReadmeTest"
        };
        for (String name : names) {
            CHECKS.dueTrue("named: " + name, textOf("README.md").contains("`" + name + "`"));
            CHECKS.dueTrue("there: " + name, Files.exists(Path.of("src/test/java", name + ".java")));
        }
    }

    private static String textOf(String file) {
        try {
            return Files.readString(Path.of(file));
        } catch (IOException thrown) {
            throw new UncheckedIOException(thrown);
        }
    }
}
