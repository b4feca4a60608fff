import java.io.IOException;
import java.lang.reflect.Executable;
import java.lang.reflect.Field;
import java.lang.reflect.Modifier;
import java.nio.file.Files;
import java.nio.file.Path;
import java.util.ArrayList;
import java.util.Arrays;
import java.util.List;
import java.util.Set;
import java.util.regex.Matcher;
import java.util.regex.Pattern;

/** The rules of LANGUAGE.md that can be seen in the text of the class or in what it was compiled to. */
public final class FormTest {
    private static final Path SOURCE = Path.of("src", "main", "java", "NoticeStations.java");
    private static final Set<String> IMPORTS = Set.of("java.util.Arrays", "java.util.NoSuchElementException",
            "java.util.ArrayList", "java.util.List", "java.util.Iterator");
    private static final Set<String> THROWN = Set.of("IllegalStateException", "IllegalArgumentException",
            "IndexOutOfBoundsException", "UnsupportedOperationException", "NoSuchElementException");
    private static final Set<String> LIBRARY = Set.of("Arrays.copyOf", "Arrays.copyOfRange", "Arrays.fill",
            "System.arraycopy", "Integer.bitCount", "Integer.numberOfTrailingZeros", "Math.max", "Math.min",
            "Math.abs", "Math.floorMod", "Math.floorDiv");
    private static final String[] RULED_OUT = {"package", "->", "::", "finally", "synchronized", "assert", "protected",
        "volatile", "transient", "native", "Thread", "Random", "File", "getMessage", "hashCode", "equals", "toString",
        "catch", "Exact("};
    private static final int LINES = 60;

    private FormTest() {
    }

    public static void main(String[] args) throws IOException {
        List<String> lines = Files.readAllLines(SOURCE);
        String code = String.join("\n", lines.stream().map(line -> line.replaceAll("//.*", "")).toList());
        ruledOutWords(code);
        onlyOf("import", code, "(?m)^import ([\\w.]+);", IMPORTS);
        onlyOf("throw", code, "throw\\s+new\\s+(\\w+)\\(\\)", THROWN);
        Check.due("throws of another form", count(code, "\\bthrow\\b"), count(code, "throw\\s+new\\s+\\w+\\(\\)"));
        onlyOf("library call", code, "\\b((?:Arrays|System|Integer|Long|Math|String|List)\\.\\w+)", LIBRARY);
        shortMethods(lines);
        classes();
        Check.end();
    }

    private static void ruledOutWords(String code) {
        for (String word : RULED_OUT) {
            Check.due("the code has " + word, code.contains(word), false);
        }
    }

    private static void onlyOf(String what, String code, String pattern, Set<String> allowed) {
        Matcher matcher = Pattern.compile(pattern).matcher(code);
        while (matcher.find()) {
            Check.due(what + " " + matcher.group(1) + " is allowed", allowed.contains(matcher.group(1)), true);
        }
    }

    private static int count(String code, String pattern) {
        return (int) Pattern.compile(pattern).matcher(code).results().count();
    }

    /** From a line that begins a method to the brace that stands as far in. */
    private static void shortMethods(List<String> lines) {
        String notControl = "(?!(?:if|for|while|switch|return|throw|new)\\b)";
        Pattern head = Pattern.compile("( {4}| {8})" + notControl + "\\w[\\w\\[\\] ]*\\(.*[^;]");
        int methods = 0;
        for (int i = 0; i < lines.size(); i++) {
            Matcher matcher = head.matcher(lines.get(i));
            if (matcher.matches()) {
                int end = lines.subList(i, lines.size()).indexOf(matcher.group(1) + "}");
                Check.due("the method at line " + (i + 1) + " has an end", end >= 0, true);
                Check.due("the method at line " + (i + 1) + " is too long", end > LINES, false);
                methods++;
            }
        }
        Check.due("methods were found", methods > 20, true);
    }

    private static void classes() {
        List<Class<?>> all = new ArrayList<>(Arrays.asList(NoticeStations.class.getDeclaredClasses()));
        all.add(NoticeStations.class);
        Check.due("more than twelve classes", all.size() > 12, false);
        for (Class<?> one : all) {
            List<Executable> bodies = new ArrayList<>(Arrays.asList(one.getDeclaredMethods()));
            bodies.addAll(Arrays.asList(one.getDeclaredConstructors()));
            for (Executable body : bodies) {
                Check.due(body + " takes more than seven", body.getParameterCount() > 7, false);
            }
            int own = 0;
            for (Field field : one.getDeclaredFields()) {
                boolean constant = Modifier.isStatic(field.getModifiers());
                Check.due(field + " is static and not final", constant && !Modifier.isFinal(field.getModifiers()),
                        false);
                own += constant ? 0 : 1;
            }
            Check.due(one + " has more than twenty fields", own > 20, false);
        }
    }
}
