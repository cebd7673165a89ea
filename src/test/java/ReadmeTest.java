import java.io.IOException;
import java.lang.reflect.Method;
import java.lang.reflect.Modifier;
import java.nio.charset.StandardCharsets;
import java.nio.file.DirectoryStream;
import java.nio.file.Files;
import java.nio.file.Path;
import java.util.regex.Matcher;
import java.util.regex.Pattern;

/** README.md: its example, call by call, and that it names each call and each test. */
public final class ReadmeTest {
    private static final Checks CHECKS = new Checks();
    private static final Path PAGE = Path.of("README.md");
    private static final Path TESTS = Path.of("src", "test", "java");
    private static final Pattern EXAMPLE = Pattern.compile("(?s)```java\n(.*?)```");
    private static final Pattern STEP = Pattern.compile("log\\.(\\w+)\\(([-0-9, ]*)\\);\\s*// (true|false|-?\\d+)(:.*)?");

    public static void main(String[] args) throws IOException {
        String page = Files.readString(PAGE, StandardCharsets.UTF_8);
        Matcher example = EXAMPLE.matcher(page);
        if (example.find()) {
            play(example.group(1).split("\n"));
        } else {
            CHECKS.report("the example", "none", "one");
        }
        namesEachCall(page);
        namesEachTest(page);
        CHECKS.end();
    }

    private static void play(String[] lines) {
        SharedLog log = new SharedLog();
        if (!lines[0].equals("SharedLog log = new SharedLog();")) {
            CHECKS.report("the example's first line", lines[0], "a new log");
        }
        for (int number = 1; number < lines.length; number++) {
            String line = lines[number];
            Matcher step = STEP.matcher(line);
            if (step.matches()) {
                CHECKS.due(line, numberOf(step.group(3)), () -> answer(log, step.group(1), step.group(2)));
            } else if (!line.isEmpty() && !line.startsWith("// ")) {
                CHECKS.report("the example's line " + line, "no call with its answer", "one");
            }
        }
    }

    private static long numberOf(String answer) {
        return answer.equals("true") || answer.equals("false") ? Checks.yes(answer.equals("true")) : Long.parseLong(answer);
    }

    private static long answer(SharedLog log, String name, String listed) {
        String[] texts = listed.isEmpty() ? new String[0] : listed.split(", ");
        Object[] arguments = new Object[texts.length];
        Class<?>[] types = new Class<?>[texts.length];
        for (int i = 0; i < texts.length; i++) {
            arguments[i] = Integer.valueOf(texts[i]);
            types[i] = int.class;
        }
        try {
            return numberOf(SharedLog.class.getMethod(name, types).invoke(log, arguments).toString());
        } catch (ReflectiveOperationException e) {
            throw new IllegalStateException(e);
        }
    }

    private static void namesEachCall(String page) {
        for (Method method : SharedLog.class.getDeclaredMethods()) {
            boolean listed = Pattern.compile("\\| `" + method.getName() + "\\([^)]*\\)` \\|").matcher(page).find();
            boolean shown = page.contains("log." + method.getName() + "(");
            if (Modifier.isPublic(method.getModifiers()) && !(listed && shown)) {
                CHECKS.report("README.md on " + method.getName(), "no row or no example", "both");
            }
        }
    }

    private static void namesEachTest(String page) throws IOException {
        try (DirectoryStream<Path> tests = Files.newDirectoryStream(TESTS, "*Test.java")) {
            for (Path test : tests) {
                String name = test.getFileName().toString().replace(".java", "");
                if (!page.contains("| `" + name + "` |")) {
                    CHECKS.report("README.md on " + name, "no row", "one");
                }
            }
        }
    }
}
