import java.io.IOException;
import java.lang.reflect.Method;
import java.lang.reflect.Modifier;
import java.nio.charset.StandardCharsets;
import java.nio.file.DirectoryStream;
import java.nio.file.Files;
import java.nio.file.Path;
import java.util.List;
import java.util.Set;
import java.util.TreeSet;
import java.util.regex.Matcher;
import java.util.regex.Pattern;

/** README.md as it stands: its example answers what its comments say, and it names every test. */
public final class ReadmeTest {
    private static final Path README = Path.of("README.md");
    private static final Path TESTS = Path.of("src", "test", "java");
    private static final String FIRST_LINE = "PointerClones x = new PointerClones();";
    private static final Pattern LINE = Pattern.compile("x\\.(\\w+)\\(([^)]*)\\);\\s+// (-?\\w+): .+");

    private static final Checks CHECKS = new Checks("ReadmeTest");

    public static void main(String[] args) throws IOException, ReflectiveOperationException {
        List<String> lines = Files.readAllLines(README, StandardCharsets.UTF_8);
        example(lines);
        namesEveryTest(lines);
        CHECKS.end();
    }

    private static void example(List<String> lines) throws ReflectiveOperationException {
        CHECKS.begin("the example");
        PointerClones x = new PointerClones();
        Set<String> used = new TreeSet<>();
        int start = lines.indexOf("```java");
        int end = start + 1 + lines.subList(start + 1, lines.size()).indexOf("```");
        CHECKS.due("its first line", lines.get(start + 1), FIRST_LINE);
        for (String line : lines.subList(start + 2, end)) {
            used.add(answerIsAsSaid(x, line));
        }
        CHECKS.due("the methods that it uses", used.toString(), methodsOfTheFace().toString());
    }

    private static String answerIsAsSaid(PointerClones x, String line) throws ReflectiveOperationException {
        Matcher matcher = LINE.matcher(line);
        boolean understood = matcher.matches();
        CHECKS.due("a call with its answer: " + line, understood, true);
        if (!understood) {
            return "";
        }
        String name = matcher.group(1);
        Method method = methodNamed(name);
        Object got = method.invoke(x, arguments(method, matcher.group(2)));
        CHECKS.due(line, got.toString(), matcher.group(3));
        return name;
    }

    private static Method methodNamed(String name) throws NoSuchMethodException {
        for (Method method : PointerClones.class.getDeclaredMethods()) {
            if (method.getName().equals(name)) {
                return method;
            }
        }
        throw new NoSuchMethodException(name);
    }

    private static Object[] arguments(Method method, String text) {
        Class<?>[] types = method.getParameterTypes();
        String[] texts = text.isEmpty() ? new String[0] : text.split(", ");
        Object[] values = new Object[texts.length];
        for (int i = 0; i < texts.length; i++) {
            values[i] = types[i] == boolean.class ? (Object) Boolean.valueOf(texts[i]) : Integer.valueOf(texts[i]);
        }
        return values;
    }

    private static Set<String> methodsOfTheFace() {
        Set<String> names = new TreeSet<>();
        for (Method method : PointerClones.class.getDeclaredMethods()) {
            if (Modifier.isPublic(method.getModifiers())) {
                names.add(method.getName());
            }
        }
        return names;
    }

    private static void namesEveryTest(List<String> lines) throws IOException {
        CHECKS.begin("the tests that it names");
        String text = String.join("\n", lines);
        try (DirectoryStream<Path> files = Files.newDirectoryStream(TESTS, "*Test.java")) {
            for (Path file : files) {
                String name = file.getFileName().toString().replace(".java", "");
                CHECKS.due(name, text.contains("`" + name + "`"), true);
            }
        }
    }
}
