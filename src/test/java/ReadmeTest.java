import java.io.IOException;
import java.lang.reflect.InvocationTargetException;
import java.lang.reflect.Method;
import java.lang.reflect.Modifier;
import java.nio.file.Files;
import java.nio.file.Path;
import java.util.List;
import java.util.regex.Matcher;
import java.util.regex.Pattern;
import java.util.stream.Stream;

/** README.md: the calls that it shows answer what it says behind them, and it names every call and every test. */
public final class ReadmeTest {
    private static final Path README = Path.of("README.md");
    private static final String NEW = "NoticeStations x = new NoticeStations();";
    private static final Pattern CALL = Pattern.compile("x\\.(\\w+)\\((.*?)\\);(?: +// (.*))?");

    private NoticeStations x;
    private int calls = 0;

    private ReadmeTest() {
    }

    public static void main(String[] args) throws IOException {
        List<String> lines = Files.readAllLines(README);
        new ReadmeTest().shownCalls(lines);
        namedCalls(String.join("\n", lines));
        namedTests(String.join("\n", lines));
        Check.end();
    }

    private void shownCalls(List<String> lines) {
        boolean inside = false;
        for (String line : lines) {
            if (line.startsWith("```")) {
                inside = line.equals("```java");
            } else if (inside && line.equals(NEW)) {
                x = new NoticeStations();
            } else if (inside) {
                shownCall(line);
            }
        }
        Check.due("calls are shown", calls > 40, true);
    }

    private void shownCall(String line) {
        Matcher matcher = CALL.matcher(line);
        if (!matcher.matches() || x == null) {
            Check.fail("no call: " + line);
            return;
        }
        calls++;
        Method method = named(matcher.group(1));
        boolean answers = method.getReturnType() != void.class;
        String said = matcher.group(3) == null ? "" : matcher.group(3).split(":")[0];
        String got = answer(method, matcher.group(2).split(", *"));
        Check.due(line, got, answers || said.startsWith("throws ") ? said : "done");
    }

    private static Method named(String name) {
        return Stream.of(NoticeStations.class.getMethods()).filter(m -> m.getName().equals(name)).findFirst()
                .orElseThrow();
    }

    private String answer(Method method, String[] written) {
        Object[] arguments = new Object[method.getParameterCount()];
        for (int i = 0; i < arguments.length; i++) {
            boolean truth = method.getParameterTypes()[i] == boolean.class;
            arguments[i] = truth ? (Object) Boolean.valueOf(written[i]) : (Object) Integer.valueOf(written[i]);
        }
        try {
            Object got = method.invoke(x, arguments);
            boolean none = got instanceof Integer number && number == NoticeStations.NONE;
            return method.getReturnType() == void.class ? "done" : none ? "NONE" : String.valueOf(got);
        } catch (InvocationTargetException e) {
            return "throws " + e.getCause().getClass().getSimpleName();
        } catch (IllegalAccessException e) {
            return "no access";
        }
    }

    private static void namedCalls(String text) {
        for (Method method : NoticeStations.class.getDeclaredMethods()) {
            if (Modifier.isPublic(method.getModifiers())) {
                Check.due("README names " + method.getName(), text.contains("`" + method.getName() + "("), true);
            }
        }
    }

    private static void namedTests(String text) throws IOException {
        try (Stream<Path> files = Files.list(Path.of("src", "test", "java"))) {
            files.map(file -> file.getFileName().toString()).filter(name -> name.endsWith("Test.java"))
                    .forEach(name -> Check.due("README names " + name,
                            text.contains("| `" + name.replace(".java", "") + "` |"), true));
        }
    }
}
