import java.io.IOException;
import java.lang.reflect.Method;
import java.lang.reflect.Modifier;
import java.nio.file.Files;
import java.nio.file.Path;
import java.util.List;
import java.util.stream.Collectors;
import java.util.stream.Stream;

/** README.md's example answers what it says there, and README.md names every call and every test. */
public final class ReadmeTest {
    private static final Path README = Path.of("README.md");
    private static final Path TESTS = Path.of("src/test/java");

    private ReadmeTest() {
    }

    public static void main(String[] args) throws IOException {
        exampleAnswers();
        exampleStandsInReadme();
        everyCallIsNamed();
        everyTestIsNamed();
        Checks.finish();
    }

    private static void exampleAnswers() {
        // The example: README.md has the same lines.
        ChainExchange x = new ChainExchange();
        int a = x.pair(1, 2, 10);
        int b = x.pair(2, 1, 5);
        int c = x.altruist(0);
        int weight = x.plan(3, 2);
        int giver = x.giver(a);
        x.adopt();
        x.propose(b, c);
        x.propose(a, ChainExchange.NOBODY);
        int judged = x.judge(2, 1);
        int helped = x.carry();
        // The end of the example.
        Checks.due("README: weight", 15, () -> weight);
        Checks.due("README: giver", b, () -> giver);
        Checks.due("README: judged", 5, () -> judged);
        Checks.due("README: helped", 2, () -> helped);
    }

    private static void exampleStandsInReadme() throws IOException {
        String readme = Files.readString(README);
        String mine = Files.readString(TESTS.resolve("ReadmeTest.java"));
        String due = statements(mine, "has the same lines.\n", "// The end of the example.");
        Checks.due("README: the example", due, () -> statements(readme, "```java\n", "```\n"));
    }

    /** The lines between two marks, without what stands behind their semicolons. */
    private static String statements(String text, String from, String to) {
        int begin = text.indexOf(from) + from.length();
        return text.substring(begin, text.indexOf(to, begin)).lines()
                .map(line -> line.strip().replaceAll(";.*", ";"))
                .filter(line -> !line.isEmpty())
                .collect(Collectors.joining(" "));
    }

    private static void everyCallIsNamed() throws IOException {
        String readme = Files.readString(README);
        for (Method method : ChainExchange.class.getDeclaredMethods()) {
            boolean isCall = Modifier.isPublic(method.getModifiers());
            Checks.due("README: `" + method.getName() + "(..)`", true,
                    () -> !isCall || readme.contains("| `" + method.getName() + "("));
        }
    }

    private static void everyTestIsNamed() throws IOException {
        String readme = Files.readString(README);
        try (Stream<Path> files = Files.list(TESTS)) {
            List<String> names = files.map(file -> file.getFileName().toString())
                    .filter(name -> name.endsWith("Test.java")).collect(Collectors.toList());
            for (String name : names) {
                Checks.due("README: " + name, true,
                        () -> readme.contains("`" + name.replace(".java", "") + "`"));
            }
        }
    }
}
