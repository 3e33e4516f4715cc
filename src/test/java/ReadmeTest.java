import java.io.IOException;
import java.lang.reflect.InvocationTargetException;
import java.lang.reflect.Method;
import java.lang.reflect.Modifier;
import java.nio.file.Files;
import java.nio.file.Path;
import java.util.List;
import java.util.Set;
import java.util.TreeSet;
import java.util.regex.Matcher;
import java.util.regex.Pattern;
import java.util.stream.Collectors;
import java.util.stream.Stream;

/** README.md: what its examples show is what the class answers, and it names every method and every test. */
public final class ReadmeTest {
    private static final String MAKES = "EmitDesk desk = new EmitDesk();";
    /** A call and, behind it, a number or "throws" and a name; words may follow a colon. */
    private static final Pattern CALL =
            Pattern.compile("desk\\.(\\w+)\\((.*)\\); +// (-?\\d+|throws \\w+)(: .+)?");
    private static final Pattern TEST_NAME = Pattern.compile("`(\\w+Test)`");

    private final Set<String> shown = new TreeSet<>();
    private EmitDesk desk;
    private int line;

    public static void main(String[] args) throws IOException {
        List<String> readme = Files.readAllLines(Path.of("README.md"));
        new ReadmeTest().examples(readme);
        tests(readme);
        Check.end();
    }

    private void examples(List<String> readme) {
        boolean within = false;
        for (String text : readme) {
            line++;
            if (text.startsWith("```")) {
                within = text.equals("```java");
                desk = null;
            } else if (within) {
                example(text);
            }
        }
        Set<String> face = Stream.of(EmitDesk.class.getDeclaredMethods())
                .filter(method -> Modifier.isPublic(method.getModifiers()))
                .map(Method::getName)
                .collect(Collectors.toCollection(TreeSet::new));
        if (!shown.equals(face)) {
            Check.fail("README.md shows the methods " + shown + ", due are " + face);
        }
    }

    private void example(String text) {
        Matcher call = CALL.matcher(text);
        if (text.equals(MAKES)) {
            desk = new EmitDesk();
        } else if (desk == null || !call.matches()) {
            Check.fail("README.md:" + line + " is no call with its answer: " + text);
        } else {
            shown.add(call.group(1));
            String got = answer(call.group(1), call.group(2).split(", "));
            if (!got.equals(call.group(3))) {
                Check.fail("README.md:" + line + " answers " + got + ": " + text);
            }
        }
    }

    private String answer(String name, String[] written) {
        for (Method method : EmitDesk.class.getMethods()) {
            if (method.getName().equals(name) && method.getDeclaringClass() == EmitDesk.class) {
                return answer(method, written);
            }
        }
        return "nothing, there is no such method";
    }

    private String answer(Method method, String[] written) {
        Class<?>[] types = method.getParameterTypes();
        Object[] sent = new Object[types.length];
        for (int i = 0; i < types.length; i++) {
            sent[i] = argument(types[i], written[i]);
        }
        try {
            return method.invoke(desk, sent).toString();
        } catch (InvocationTargetException e) {
            return "throws " + e.getCause().getClass().getSimpleName();
        } catch (IllegalAccessException e) {
            return "nothing, it is not public";
        }
    }

    private static Object argument(Class<?> type, String written) {
        if (type == boolean.class) {
            return Boolean.valueOf(written);
        }
        if (type == int.class) {
            return Integer.valueOf(written);
        }
        return Long.valueOf(written);
    }

    private static void tests(List<String> readme) throws IOException {
        Set<String> named = new TreeSet<>();
        Matcher matcher = TEST_NAME.matcher(String.join("\n", readme));
        while (matcher.find()) {
            named.add(matcher.group(1));
        }
        Set<String> due;
        try (Stream<Path> files = Files.list(Path.of("src/test/java"))) {
            due = files.map(file -> file.getFileName().toString())
                    .filter(name -> name.endsWith("Test.java"))
                    .map(name -> name.substring(0, name.length() - ".java".length()))
                    .collect(Collectors.toCollection(TreeSet::new));
        }
        if (!named.equals(due)) {
            Check.fail("README.md names the tests " + named + ", due are " + due);
        }
        if (!readme.contains("    .ci/run")) {
            Check.fail("README.md does not say how to run the tests");
        }
    }
}
