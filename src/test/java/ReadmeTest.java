import java.io.IOException;
import java.lang.reflect.Method;
import java.lang.reflect.Modifier;
import java.nio.file.Files;
import java.nio.file.Path;
import java.util.regex.Matcher;
import java.util.regex.Pattern;
import java.util.stream.Stream;

/** README.md tells how to use the class: its example is run, and it must name every call; run from the project's folder. */
public final class ReadmeTest {
    private static final Pattern TEXT = Pattern.compile("String text = \"([^\"]*)\";");
    private static final Pattern CALL = Pattern.compile("(?m)^x\\.(\\w+)\\(([^)]*)\\);\\s*// (-?\\d+)\\b");

    private static final Due due = new Due("ReadmeTest");

    public static void main(String[] args) throws IOException, ReflectiveOperationException {
        String page = Files.readString(Path.of("README.md"));
        example(page);
        namesEveryCall(page);
        namesEveryTest(page);
        due.isTrue("it says how the tests are run", page.contains(".ci/run"));
        due.end();
    }

    private static void example(String page) throws ReflectiveOperationException {
        int start = page.indexOf("```java") + 7;
        String code = page.substring(start, page.indexOf("```", start));
        Matcher text = TEXT.matcher(code);
        due.isTrue("the example has a text", text.find());
        FirstOut x = new FirstOut();
        Due.type(x, text.group(1));
        Matcher call = CALL.matcher(code);
        int calls = 0;
        while (call.find()) {
            due.is(call.group(), answer(x, call.group(1), call.group(2)), Long.parseLong(call.group(3)));
            calls++;
        }
        due.is("every line that calls tells an answer", calls, code.lines().filter(l -> l.startsWith("x.")).count());
        due.isTrue("the example calls", calls > 0);
    }

    private static long answer(FirstOut x, String name, String inputs) throws ReflectiveOperationException {
        Object[] values = Stream.of(inputs.split(",")).map(String::trim).filter(s -> !s.isEmpty())
            .map(Integer::valueOf).toArray();
        for (Method method : FirstOut.class.getDeclaredMethods()) {
            if (method.getName().equals(name) && method.getParameterCount() == values.length) {
                return ((Number) method.invoke(x, values)).longValue();
            }
        }
        throw new NoSuchMethodException(name);
    }

    private static void namesEveryCall(String page) {
        for (Method method : FirstOut.class.getDeclaredMethods()) {
            if (Modifier.isPublic(method.getModifiers())) {
                due.isTrue("it names " + method.getName(), page.contains("`" + method.getName() + "("));
            }
        }
    }

    private static void namesEveryTest(String page) throws IOException {
        try (Stream<Path> files = Files.list(Path.of("src", "test", "java"))) {
            files.map(file -> file.getFileName().toString().replace(".java", "")).filter(name -> name.endsWith("Test"))
                .forEach(name -> due.isTrue("it names " + name, page.contains("`" + name + "`")));
        }
    }
}
