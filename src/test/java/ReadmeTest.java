import java.io.IOException;
import java.lang.reflect.InvocationTargetException;
import java.lang.reflect.Method;
import java.lang.reflect.Modifier;
import java.nio.file.Files;
import java.nio.file.Path;
import java.util.ArrayList;
import java.util.HashMap;
import java.util.HashSet;
import java.util.List;
import java.util.Map;
import java.util.Set;
import java.util.regex.Matcher;
import java.util.regex.Pattern;
import java.util.stream.Stream;

/**
 * README.md is read as it stands: each call that it shows is made and answers what it tells, each
 * call of the face is shown, and each test is named. Runs in the project's directory.
 */
public final class ReadmeTest {
    private static final Path README = Path.of("README.md");
    private static final Path TESTS = Path.of("src/test/java");
    // [type name =] new RdfsRules(arguments) or object.method(arguments); // answer[: words]
    private static final Pattern LINE = Pattern.compile(
        "(?:(?:RdfsRules|int) (\\w+) = )?(?:new RdfsRules|(\\w+)\\.(\\w+))\\(([^()]*)\\); +// ([^:]*)(?:: .*)?");
    private static final Check check = new Check();

    private final Map<String, Object> values = new HashMap<>();
    private final Set<String> shown = new HashSet<>();

    public static void main(String[] args) throws Exception {
        String text = Files.readString(README);
        ReadmeTest test = new ReadmeTest();
        List<String> lines = javaLines(text);
        for (String line : lines) {
            test.follow(line);
        }
        check.due("README.md shows calls", !lines.isEmpty());
        test.everyCallOfTheFaceIsShown();
        check.due("README.md says how to run the tests", text.contains(".ci/run"));
        everyTestIsNamed(text);
        check.end();
    }

    private static List<String> javaLines(String text) {
        List<String> found = new ArrayList<>();
        boolean inside = false;
        for (String line : text.split("\n")) {
            if (line.startsWith("```")) {
                inside = line.equals("```java");
            } else if (inside) {
                found.add(line);
            }
        }
        return found;
    }

    private void follow(String line) throws ReflectiveOperationException {
        Matcher parts = LINE.matcher(line);
        if (!parts.matches()) {
            check.due("README.md: a line that can be followed: " + line, false);
            return;
        }
        Object[] arguments = arguments(parts.group(4));
        String told = parts.group(5).trim();
        if (parts.group(3) == null) {
            values.put(parts.group(1), RdfsRules.class.getConstructor(int.class).newInstance(arguments));
            dueTold(line, "made", told);
            return;
        }
        Method method = methodOf(parts.group(3));
        shown.add(method.getName());
        String got;
        try {
            Object answer = method.invoke(values.get(parts.group(2)), arguments);
            got = answer == null ? "done" : answer.toString();
            values.put(parts.group(1), answer);
        } catch (InvocationTargetException e) {
            got = "throws " + e.getCause().getClass().getSimpleName();
        }
        dueTold(line, got, told);
    }

    private static void dueTold(String line, String got, String told) {
        check.due("README.md: " + line + " (it is: " + got + ")", got.equals(told));
    }

    private Object[] arguments(String list) {
        if (list.isEmpty()) {
            return new Object[0];
        }
        return Stream.of(list.split(", ")).map(this::valueOf).toArray();
    }

    private Object valueOf(String word) {
        if (values.containsKey(word)) {
            return values.get(word);
        }
        if (word.equals("true") || word.equals("false")) {
            return Boolean.valueOf(word);
        }
        return Integer.valueOf(word);
    }

    private static Method methodOf(String name) throws NoSuchMethodException {
        for (Method method : RdfsRules.class.getDeclaredMethods()) {
            if (method.getName().equals(name)) {
                return method;
            }
        }
        throw new NoSuchMethodException(name);
    }

    private void everyCallOfTheFaceIsShown() {
        for (Method method : RdfsRules.class.getDeclaredMethods()) {
            if (Modifier.isPublic(method.getModifiers())) {
                check.due("README.md shows " + method.getName(), shown.contains(method.getName()));
            }
        }
    }

    private static void everyTestIsNamed(String text) throws IOException {
        try (Stream<Path> files = Files.list(TESTS)) {
            for (Path file : files.toList()) {
                String name = file.getFileName().toString().replace(".java", "");
                check.due("README.md names " + name, text.contains("`" + name + "`"));
            }
        }
    }
}
