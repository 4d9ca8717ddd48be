import java.io.IOException;
import java.io.UncheckedIOException;
import java.lang.reflect.Method;
import java.lang.reflect.Modifier;
import java.nio.file.Files;
import java.nio.file.Path;
import java.util.ArrayList;
import java.util.HashMap;
import java.util.List;
import java.util.Map;
import java.util.regex.Matcher;
import java.util.regex.Pattern;

/** The examples of README.md give the answers that stand there. Run from the project's root. */
final class ReadmeTest {
    private static final Path README = Path.of("README.md");
    private static final String MAKING = "ProductConfigurator x = new ProductConfigurator();";
    private static final Pattern BLOCK = Pattern.compile("```java\n(.*?)```", Pattern.DOTALL);
    private static final Pattern LINE = Pattern.compile(
            "(?:int (\\w+) = )?x\\.(\\w+)\\((.*)\\); +// (throws )?([^:]+)(?:: .+)?");

    /** The numbers of the features, by the names that the examples give them. */
    private final Map<String, Integer> names = new HashMap<>();
    private final ProductConfigurator x = new ProductConfigurator();

    private ReadmeTest() {
    }

    static void runAll() {
        Check.test("README: its examples, promises 1 to 33", () -> new ReadmeTest().examples());
        Check.test("README: it names every call", ReadmeTest::namesEveryCall);
    }

    private static String readme() {
        try {
            return Files.readString(README);
        } catch (IOException e) {
            throw new UncheckedIOException(e);
        }
    }

    private static List<String> exampleLines() {
        List<String> lines = new ArrayList<>();
        Matcher block = BLOCK.matcher(readme());
        while (block.find()) {
            lines.addAll(List.of(block.group(1).split("\n")));
        }
        return lines;
    }

    private void examples() {
        List<String> lines = exampleLines();
        Check.equal(MAKING, lines.get(0));
        for (String line : lines.subList(1, lines.size())) {
            Matcher parts = LINE.matcher(line);
            if (!parts.matches()) {
                throw new AssertionError("not an example: " + line);
            }
            example(line, parts);
        }
    }

    private void example(String line, Matcher parts) {
        Object answer = new Call(parts.group(2), arguments(parts.group(3))).on(x);
        String due = parts.group(4) == null ? parts.group(5) : "java.lang." + parts.group(5);
        if (!due.equals(answer.toString())) {
            throw new AssertionError(line + " is answered by " + answer);
        }
        if (parts.group(1) != null) {
            names.put(parts.group(1), (Integer) answer);
        }
    }

    private int[] arguments(String list) {
        if (list.isEmpty()) {
            return new int[0];
        }
        String[] words = list.split(", ");
        int[] numbers = new int[words.length];
        for (int k = 0; k < words.length; k++) {
            numbers[k] = number(words[k]);
        }
        return numbers;
    }

    private int number(String word) {
        if (names.containsKey(word)) {
            return names.get(word);
        }
        switch (word) {
            case "true":
                return 1;
            case "false":
                return 0;
            default:
                return Integer.parseInt(word);
        }
    }

    private static void namesEveryCall() {
        String text = readme();
        for (Method method : ProductConfigurator.class.getDeclaredMethods()) {
            if (Modifier.isPublic(method.getModifiers())) {
                Check.equal(method.getName(),
                        text.contains("`" + method.getName() + "(") ? method.getName() : "none");
            }
        }
    }
}
