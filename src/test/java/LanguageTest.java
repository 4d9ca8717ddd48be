import java.io.IOException;
import java.io.UncheckedIOException;
import java.nio.file.Files;
import java.nio.file.Path;

/**
 * What can be seen of LANGUAGE.md by looking at the text of the program; the machine's compiler
 * takes more than those rules leave. Run from the root of the project.
 */
final class LanguageTest {
    private static final Path PROGRAM = Path.of("src/main/java/ProductConfigurator.java");
    private static final String[] RULED_OUT = {
        "import ", "package ", "->", "::", "finally", "synchronized", "assert ", "extends Exception",
        "hashCode", "toString", "protected ", "while (true)", "for (;;)", "Exact(", "System.",
        "Thread", "Random", "+ \"", "\" +", "catch ("
    };
    private static final int MOST_CLASSES = 12;
    private static final int LONGEST_METHOD = 60;

    private LanguageTest() {
    }

    static void runAll() {
        Check.test("language: nothing that is ruled out", LanguageTest::nothingRuledOut);
        Check.test("language: signs are 1 to 127", LanguageTest::signs);
        Check.test("language: short methods, few classes", LanguageTest::sizes);
    }

    private static String program() {
        try {
            return Files.readString(PROGRAM);
        } catch (IOException e) {
            throw new UncheckedIOException(e);
        }
    }

    private static void nothingRuledOut() {
        String text = program().replaceAll("(?s)/\\*.*?\\*/", "").replaceAll("//.*", "");
        for (String word : RULED_OUT) {
            if (text.contains(word)) {
                throw new AssertionError("ruled out: " + word);
            }
        }
    }

    private static void signs() {
        Check.equal(true, program().chars().allMatch(sign -> sign >= 1 && sign <= 127));
    }

    /** A method ends with the brace that stands as far in as its first line. */
    private static void sizes() {
        int classes = 0;
        int start = 0;
        String end = null;
        String[] lines = program().split("\n");
        for (int k = 0; k < lines.length; k++) {
            String line = lines[k];
            boolean isClass = line.matches(" *(public|private) .*class .*\\{");
            classes += isClass ? 1 : 0;
            if (end == null && !isClass && line.matches(" {4,8}[a-zA-Z].*[(].*")) {
                boolean isDone = line.endsWith(";");
                end = isDone ? null : line.replaceAll("\\S.*", "") + "}";
                start = k;
            } else if (line.equals(end)) {
                Check.equal(true, k - start < LONGEST_METHOD);
                end = null;
            }
        }
        Check.equal(true, classes <= MOST_CLASSES);
    }
}
