import java.io.IOException;
import java.lang.reflect.InvocationTargetException;
import java.lang.reflect.Method;
import java.lang.reflect.Modifier;
import java.nio.file.Files;
import java.nio.file.Path;
import java.util.ArrayList;
import java.util.HashMap;
import java.util.HashSet;
import java.util.List;
import java.util.Map;
import java.util.Set;
import java.util.regex.Matcher;
import java.util.regex.Pattern;
import java.util.stream.Stream;

/**
 * README.md is read as it stands: each call that it shows is made and answers what it tells, each
 * call of the face is shown, and each test is named. Runs in the project's directory.
 */
public final class ReadmeTest {
    private static final Path README = Path.of("README.md");
    private static final Path TESTS = Path.of("src/test/java");
    // RdfsRules name = new RdfsRules(arguments) or [int name =] object.method(arguments),
    // then ; // answer[: words]
    private static final Pattern LINE = Pattern.compile(
        "(?:RdfsRules (?<made>\\w+) = new RdfsRules|(?:int (?<kept>\\w+) = )?(?<object>\\w+)\\.(?<method>\\w+))"
        + "\\((?<arguments>[^()]*)\\); +// (?<told>[^:]*)(?:: .*)?");
    private static final Check check = new Check();

    private final Map<String, Object> values = new HashMap<>();
    private final Set<String> shown = new HashSet<>();

    public static void main(String[] args) throws Exception {
        String text = Files.readString(README);
        ReadmeTest test = new ReadmeTest();
        List<String> lines = javaLines(text);
        for (String line : lines) {
            test.follow(line);
        }
        check.due("README.md shows calls", !lines.isEmpty());
        test.everyCallOfTheFaceIsShown();
        check.due("README.md says how to run the tests", text.contains(".ci/run"));
        everyTestIsNamed(text);
        check.end();
    }

    private static List<String> javaLines(String text) {
        List<String> found = new ArrayList<>();
        boolean inside = false;
        for (String line : text.split("\n")) {
            if (line.startsWith("```")) {
                inside = line.equals("```java");
            } else if (inside) {
                found.add(line);
            }
        }
        return found;
    }

    private void follow(String line) throws ReflectiveOperationException {
        Matcher parts = LINE.matcher(line);
        if (!parts.matches()) {
            check.due("README.md: a line that can be followed: " + line, false);
            return;
        }
        String got = parts.group("made") != null ? make(parts) : call(parts);
        check.due("README.md: " + line + " (it is: " + got + ")", got.equals(parts.group("told").trim()));
    }

    private String make(Matcher parts) throws ReflectiveOperationException {
        Object[] arguments = arguments(parts.group("arguments"));
        values.put(parts.group("made"), RdfsRules.class.getConstructor(int.class).newInstance(arguments));
        return "made";
    }

    private String call(Matcher parts) throws ReflectiveOperationException {
        Method method = methodOf(parts.group("method"));
        shown.add(method.getName());
        try {
            Object answer = method.invoke(values.get(parts.group("object")), arguments(parts.group("arguments")));
            if (parts.group("kept") != null) {
                values.put(parts.group("kept"), answer);
            }
            return answer == null ? "done" : answer.toString();
        } catch (InvocationTargetException e) {
            return "throws " + e.getCause().getClass().getSimpleName();
        }
    }

    private Object[] arguments(String list) {
        if (list.isEmpty()) {
            return new Object[0];
        }
        return Stream.of(list.split(", ")).map(this::valueOf).toArray();
    }

    private Object valueOf(String word) {
        if (values.containsKey(word)) {
            return values.get(word);
        }
        if (word.equals("true") || word.equals("false")) {
            return Boolean.valueOf(word);
        }
        return Integer.valueOf(word);
    }

    private static Method methodOf(String name) throws NoSuchMethodException {
        for (Method method : RdfsRules.class.getDeclaredMethods()) {
            if (method.getName().equals(name)) {
                return method;
            }
        }
        throw new NoSuchMethodException(name);
    }

    private void everyCallOfTheFaceIsShown() {
        for (Method method : RdfsRules.class.getDeclaredMethods()) {
            if (Modifier.isPublic(method.getModifiers())) {
                check.due("README.md shows " + method.getName(), shown.contains(method.getName()));
            }
        }
    }

    private static void everyTestIsNamed(String text) throws IOException {
        try (Stream<Path> files = Files.list(TESTS)) {
            for (Path file : files.toList()) {
                String name = file.getFileName().toString().replace(".java", "");
                check.due("README.md names " + name, text.contains("`" + name + "`"));
            }
        }
    }
}
