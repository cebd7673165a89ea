import java.io.IOException;
import java.nio.charset.StandardCharsets;
import java.nio.file.Files;
import java.nio.file.Path;
import java.util.regex.Matcher;
import java.util.regex.Pattern;

/** Those rules of LANGUAGE.md that can be seen in the words of the class alone. */
public final class RulesTest {
    private static final Checks CHECKS = new Checks();
    private static final Path SOURCE = Path.of("src", "main", "java", "SharedLog.java");
    private static final int LONGEST_METHOD = 60;

    /** A rule's number and name, and what must not be found. */
    private static final String[][] FORBIDDEN = {
        {"1: a package line", "(?m)^\\s*package\\b"},
        {"2: a lambda", "->"},
        {"2: a method reference", "::"},
        {"3: a type that is not listed", "\\b(Object|Long|Double|Character|Boolean|Map|Set|HashMap|Stream)\\b(?!\\.)"},
        {"4: a function that throws by itself", "\\w+Exact\\b"},
        {"4: another import", "(?m)^import (?!java\\.util\\.(Arrays|ArrayList|List|Iterator|NoSuchElementException);)"},
        {"4: a full name", "(?m)^(?!import ).*\\bjava\\."},
        {"5: an initialiser block", "\\bstatic\\s*\\{"},
        {"5: other static state", "\\bstatic (?!final)(int|long|boolean|String|\\w+\\[\\])\\s+\\w+\\s*[=;]"},
        {"6: a word that is left out", "\\b(finally|synchronized|assert|volatile|native|transient)\\b"},
        {"6: a catch of what the machine throws",
            "catch\\s*\\([^)]*\\b(Throwable|Exception|Error|RuntimeException|IndexOutOfBoundsException"
            + "|ArrayIndexOutOfBoundsException|NullPointerException|ClassCastException|NegativeArraySizeException"
            + "|ArrayStoreException)\\b"},
        {"6: another exception", "throw\\b(?!s)(?! new (IllegalStateException|IllegalArgumentException"
            + "|IndexOutOfBoundsException)\\()"},
        {"6: a text or name of an own object", "\\b(equals|hashCode|toString|getClass)\\s*\\("},
        {"10: texts joined by +", "\"\\s*\\+|\\+\\s*\""},
        {"13: what answers differently each time", "\\b(Random|nanoTime|currentTimeMillis|Thread|File|identityHashCode)\\b"},
    };

    public static void main(String[] args) throws IOException {
        String source = Files.readString(SOURCE, StandardCharsets.ISO_8859_1);
        String code = withoutComments(source);
        for (String[] rule : FORBIDDEN) {
            Matcher found = Pattern.compile(rule[1]).matcher(code);
            if (found.find()) {
                CHECKS.report("the rule " + rule[0], "\"" + found.group().strip() + "\"", "nothing of it");
            }
        }
        methodsAreShort(code);
        parametersAreFew(code);
        CHECKS.end();
    }

    private static String withoutComments(String source) {
        return source.replaceAll("(?s)/\\*.*?\\*/", "").replaceAll("//[^\n]*", "");
    }

    private static void methodsAreShort(String code) {
        int begin = 0;
        String[] lines = code.split("\n");
        for (int line = 0; line < lines.length; line++) {
            if (lines[line].isBlank()) {
                begin = line;
            } else if (line - begin > LONGEST_METHOD) {
                CHECKS.report("the rule 11: the lines from " + lines[begin + 1].strip(), "" + (line - begin), "60 or fewer");
                begin = line;
            }
        }
    }

    private static void parametersAreFew(String code) {
        Matcher found = Pattern.compile("\\b\\w+\\(([^()]*)\\)[^;{}]*\\{").matcher(code);
        while (found.find()) {
            if (found.group(1).split(",").length > 7) {
                CHECKS.report("the rule 11: the parameters of " + found.group().strip(), "more than 7", "7 or fewer");
            }
        }
    }
}
