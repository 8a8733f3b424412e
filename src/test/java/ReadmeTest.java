import java.io.IOException;
import java.lang.reflect.InvocationTargetException;
import java.lang.reflect.Method;
import java.lang.reflect.Modifier;
import java.nio.file.Files;
import java.nio.file.Path;
import java.util.ArrayList;
import java.util.HashSet;
import java.util.List;
import java.util.Set;
import java.util.regex.Matcher;
import java.util.regex.Pattern;

/** The examples in README.md answer as README.md says; .ci/run runs this from the project's directory. */
public final class ReadmeTest {
    private static final Pattern CALL =
            Pattern.compile("(test|new StrainRows\\(\\))\\.(\\w+)\\(([^()]*)\\);(?: +// ([^:]+)(?::.*)?)?");
    private static final String MADE = "StrainRows test = new StrainRows();";

    private final Due due = new Due();
    private final Set<String> shown = new HashSet<>();
    private StrainRows test;

    public static void main(String[] args) throws Exception {
        new ReadmeTest().run();
    }

    private void run() throws Exception {
        String readme = Files.readString(Path.of("README.md"));
        for (String line : exampleLines(readme)) {
            example(line);
        }
        for (Method method : StrainRows.class.getDeclaredMethods()) {
            if (Modifier.isPublic(method.getModifiers())) {
                due.holds("an example of " + method.getName(), shown.contains(method.getName()));
            }
        }
        testsAreTold(readme);
        due.end();
    }

    private static List<String> exampleLines(String readme) {
        List<String> lines = new ArrayList<>();
        boolean inside = false;
        for (String line : readme.split("\n")) {
            if (line.startsWith("```")) {
                inside = line.equals("```java");
            } else if (inside && !line.isEmpty() && !line.startsWith("//")) {
                lines.add(line);
            }
        }
        return lines;
    }

    private void example(String line) throws IllegalAccessException {
        if (line.equals(MADE)) {
            test = new StrainRows();
            return;
        }
        Matcher told = CALL.matcher(line);
        if (!told.matches()) {
            due.holds("a line that is a call: " + line, false);
            return;
        }
        Method method = methodOf(told.group(2));
        Object[] numbers = method == null ? null : numbers(told.group(3), method.getParameterTypes());
        StrainRows object = told.group(1).equals("test") ? test : new StrainRows();
        if (numbers == null || object == null) {
            due.holds("a call that can be made: " + line, false);
            return;
        }
        shown.add(method.getName());
        String answer = answer(object, method, numbers);
        // Of a method without an answer the comment says what was told.
        String want = answer.isEmpty() ? "" : told.group(4);
        due.holds(line + " (answered " + answer + ")", answer.equals(want));
    }

    private static Method methodOf(String name) {
        for (Method method : StrainRows.class.getDeclaredMethods()) {
            if (Modifier.isPublic(method.getModifiers()) && method.getName().equals(name)) {
                return method;
            }
        }
        return null;
    }

    /** The arguments, or null if they are not as many as the parameters. */
    private static Object[] numbers(String told, Class<?>[] kinds) {
        String[] texts = told.isEmpty() ? new String[0] : told.split(", ");
        if (texts.length != kinds.length) {
            return null;
        }
        Object[] numbers = new Object[texts.length];
        for (int i = 0; i < texts.length; i++) {
            if (kinds[i] == long.class) {
                numbers[i] = Long.parseLong(texts[i]);
            } else {
                numbers[i] = Integer.parseInt(texts[i]);
            }
        }
        return numbers;
    }

    /** What the call answers, the name of what it throws, or nothing. */
    private static String answer(StrainRows object, Method method, Object[] numbers) throws IllegalAccessException {
        try {
            Object answer = method.invoke(object, numbers);
            return answer == null ? "" : answer.toString();
        } catch (InvocationTargetException thrown) {
            return thrown.getCause().getClass().getSimpleName();
        }
    }

    /** README.md lists each test that .ci/run runs; those of the promises it lists as one. */
    private void testsAreTold(String readme) throws IOException {
        try (var files = Files.newDirectoryStream(Path.of("src/test/java"), "*Test.java")) {
            for (Path file : files) {
                String name = file.getFileName().toString().replace(".java", "");
                due.holds("README.md tells of " + name,
                        name.matches("P(0[1-9]|1[0-5])\\w+") || readme.contains("- `" + name + "`:"));
            }
        }
    }
}
