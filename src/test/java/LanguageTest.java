import java.io.IOException;
import java.io.UncheckedIOException;
import java.lang.reflect.Executable;
import java.nio.file.Files;
import java.nio.file.Path;
import java.util.ArrayDeque;
import java.util.Deque;
import java.util.regex.Matcher;
import java.util.regex.Pattern;

/**
 * What can be seen of LANGUAGE.md by looking at the text of the program; the machine's compiler
 * takes more than those rules leave. Run from the root of the project.
 */
final class LanguageTest {
    private static final Path PROGRAM = Path.of("src/main/java/ProductConfigurator.java");
    private static final Pattern COMMENTS_AND_TEXTS = Pattern.compile(
            "\"(?:\\\\.|[^\"\\\\])*\"|'(?:\\\\.|[^'\\\\])*'|//[^\n]*|/\\*.*?\\*/", Pattern.DOTALL);
    private static final String LISTED_EXCEPTIONS = "(?:IllegalStateException"
            + "|IllegalArgumentException|IndexOutOfBoundsException|ArithmeticException"
            + "|UnsupportedOperationException|NoSuchElementException|RuntimeException)";

    /** A rule by its number, and a pattern that no line of the program may hold. */
    private static final String[][] RULED_OUT = {
        {"the head: no package", "^\\s*package\\b"},
        {"2: no lambda", "[;{}](?!\\s*(?:case|default)\\b)[^;{}]*->"},
        {"2: no method reference", "::"},
        {"4: the library", "\\bimport\\s+(?!java\\.util\\.)"},
        {"4: arraycopy alone of System", "\\bSystem\\.(?!arraycopy\\b)"},
        {"4: nothing named Exact", "\\b(?:Math|Integer|Long)\\.\\w+Exact\\b"},
        {"5: no static initialiser", "^\\s*static\\s*\\{"},
        {"6: only the listed exceptions", "\\bthrow\\s+(?!new\\s+" + LISTED_EXCEPTIONS + "\\b)"},
        {"6: only the listed exceptions",
            "\\bcatch\\s*\\((?!(?:\\s*\\|?\\s*" + LISTED_EXCEPTIONS + "\\b)+\\s+\\w+\\s*\\))"},
        {"6: no exception class", "\\bextends\\s+\\w*(?:Exception|Error|Throwable)\\b"},
        {"6: no try with resources", "\\btry\\s*\\("},
        {"6: not these", "\\b(?:finally|synchronized|assert)\\b"},
        {"6: no hashCode", "\\bhashCode\\b"},
        {"9: each loop has an end", "\\bwhile\\s*\\(\\s*true\\b|\\bfor\\s*\\([^;]*;\\s*;"},
        {"10: texts are joined by StringBuilder", "\\+\\s*\"|\"\\s*\\+"},
        {"13: no clock, no randomness, no thread", "\\b(?:Random|random|Thread|nanoTime|Clock)\\b"},
    };
    private static final Pattern CLASS_HEAD = Pattern.compile(
            "\\b(?:class|interface|enum|record)\\s+\\w");
    private static final int MOST_CLASSES = 12;
    private static final int MOST_PARAMETERS = 7;
    private static final int LONGEST_METHOD = 60;

    private LanguageTest() {
    }

    static void runAll() {
        Check.test("language: nothing that is ruled out", LanguageTest::nothingRuledOut);
        Check.test("language, rule 3: signs are 1 to 127", LanguageTest::signs);
        Check.test("language, rule 11: short methods, few classes", LanguageTest::sizes);
        Check.test("language, rule 11: at most seven parameters", LanguageTest::parameters);
    }

    private static String program() {
        try {
            return Files.readString(PROGRAM);
        } catch (IOException e) {
            throw new UncheckedIOException(e);
        }
    }

    /** The lines stay where they are; a sign, which is a number, becomes one. */
    private static String withoutCommentsAndTexts() {
        return COMMENTS_AND_TEXTS.matcher(program()).replaceAll(found -> {
            switch (found.group().charAt(0)) {
                case '"':
                    return "\"\"";
                case '\'':
                    return "0";
                default:
                    return " " + found.group().replaceAll("[^\n]", "");
            }
        });
    }

    private static void nothingRuledOut() {
        String text = withoutCommentsAndTexts();
        for (String[] rule : RULED_OUT) {
            Matcher found = Pattern.compile(rule[1], Pattern.MULTILINE).matcher(text);
            if (found.find()) {
                throw new AssertionError("rule " + rule[0] + ": " + found.group());
            }
        }
    }

    private static void signs() {
        Check.equal(true, program().chars().allMatch(sign -> sign >= 1 && sign <= 127));
    }

    /** What a brace opens: a class, a method right inside one, or else a part of a method. */
    private enum Part { CLASS, METHOD, OTHER }

    private static void sizes() {
        String text = withoutCommentsAndTexts();
        Deque<Part> parts = new ArrayDeque<>();
        int classes = 0;
        int firstLine = 0;
        int line = 1;
        int headStart = 0;
        for (int k = 0; k < text.length(); k++) {
            char sign = text.charAt(k);
            line += sign == '\n' ? 1 : 0;
            if (sign == '{') {
                String head = text.substring(headStart, k).strip();
                parts.push(partOf(head, parts.peek()));
                classes += parts.peek() == Part.CLASS ? 1 : 0;
                firstLine = parts.peek() == Part.METHOD ? line - linesIn(head) : firstLine;
            } else if (sign == '}' && parts.pop() == Part.METHOD
                    && line - firstLine >= LONGEST_METHOD) {
                throw new AssertionError("rule 11: long method, lines " + firstLine + " to " + line);
            }
            headStart = sign == '{' || sign == '}' || sign == ';' ? k + 1 : headStart;
        }
        Check.equal(true, classes <= MOST_CLASSES);
    }

    private static Part partOf(String head, Part around) {
        if (CLASS_HEAD.matcher(head).find()) {
            return Part.CLASS;
        }
        return around == Part.CLASS && head.contains("(") ? Part.METHOD : Part.OTHER;
    }

    private static int linesIn(String head) {
        return (int) head.chars().filter(sign -> sign == '\n').count();
    }

    private static void parameters() {
        checkParameters(ProductConfigurator.class);
        for (Class<?> inside : ProductConfigurator.class.getDeclaredClasses()) {
            checkParameters(inside);
        }
    }

    private static void checkParameters(Class<?> owner) {
        for (Executable method : owner.getDeclaredMethods()) {
            Check.equal(true, method.getParameterCount() <= MOST_PARAMETERS);
        }
        // Java itself adds two to those that the constructor of an enum is written with.
        int added = owner.isEnum() ? 2 : 0;
        for (Executable constructor : owner.getDeclaredConstructors()) {
            Check.equal(true, constructor.getParameterCount() <= MOST_PARAMETERS + added);
        }
    }
}
