import java.io.IOException;
import java.lang.reflect.Method;
import java.lang.reflect.Modifier;
import java.nio.file.Files;
import java.nio.file.Path;
import java.util.ArrayList;
import java.util.HashMap;
import java.util.List;
import java.util.Map;
import java.util.Set;
import java.util.TreeSet;
import java.util.regex.Matcher;
import java.util.regex.Pattern;

/** Makes the calls that README.md shows, in their order on one desk, and compares the answers shown. */
public final class ReadmeTest {
    private static final Path README = Path.of("README.md");
    private static final String FIRST_LINE = "MainframeDesk desk = new MainframeDesk();";
    private static final Pattern CALL = Pattern.compile(
        "(?:(\\w+) (\\w+) = )?desk\\.(\\w+)\\(([^()]*)\\); *// (-?\\d+|true|false): .+");

    private static int wrong = 0;

    private static void tell(String what) {
        wrong++;
        System.out.println(what);
    }

    public static void main(String[] args) throws IOException, ReflectiveOperationException {
        String text = Files.readString(README);
        Set<String> shown = runExample(exampleOf(text));
        for (String name : namesOfFace()) {
            if (!shown.contains(name)) {
                tell("README.md shows no call of " + name);
            }
            if (!text.contains("| `" + name + "(")) {
                tell("README.md does not say what " + name + " does");
            }
        }
        for (String test : namesOfTests()) {
            if (!text.contains("- `" + test + "`")) {
                tell("README.md does not name " + test);
            }
        }
        System.out.println(wrong == 0 ? "README.md is true" : wrong + " faults in README.md");
        if (wrong != 0) {
            System.exit(1);
        }
    }

    private static List<String> exampleOf(String text) {
        List<String> lines = new ArrayList<>();
        boolean inside = false;
        for (String line : text.split("\n")) {
            if (line.startsWith("```")) {
                inside = line.equals("```java");
            } else if (inside) {
                lines.add(line);
            }
        }
        return lines;
    }

    private static Set<String> namesOfFace() {
        Set<String> names = new TreeSet<>();
        for (Method method : MainframeDesk.class.getDeclaredMethods()) {
            if (Modifier.isPublic(method.getModifiers())) {
                names.add(method.getName());
            }
        }
        return names;
    }

    private static Set<String> namesOfTests() throws IOException {
        Set<String> names = new TreeSet<>();
        try (var files = Files.newDirectoryStream(Path.of("src/test/java"), "*.java")) {
            for (Path file : files) {
                names.add(file.getFileName().toString().replace(".java", ""));
            }
        }
        return names;
    }

    /** The names of the methods that were called. */
    private static Set<String> runExample(List<String> lines) throws ReflectiveOperationException {
        Set<String> called = new TreeSet<>();
        if (lines.isEmpty() || !lines.get(0).equals(FIRST_LINE)) {
            tell("README.md has no example that begins with a new desk");
            return called;
        }
        MainframeDesk desk = new MainframeDesk();
        Map<String, String> variables = new HashMap<>();
        for (String line : lines.subList(1, lines.size())) {
            Matcher parts = CALL.matcher(line);
            if (parts.matches()) {
                called.add(parts.group(3));
                runLine(desk, line, parts, variables);
            } else {
                tell("no call with its answer: " + line);
            }
        }
        return called;
    }

    private static void runLine(MainframeDesk desk, String line, Matcher parts, Map<String, String> variables)
            throws ReflectiveOperationException {
        Method method = methodNamed(parts.group(3));
        String[] texts = parts.group(4).split(", *");
        if (method == null || method.getParameterCount() != texts.length) {
            tell("no such method: " + line);
            return;
        }
        Object[] arguments = new Object[texts.length];
        for (int i = 0; i < texts.length; i++) {
            long value = Long.parseLong(variables.getOrDefault(texts[i], texts[i]));
            boolean isInt = method.getParameterTypes()[i] == int.class;
            arguments[i] = isInt ? (Object) Math.toIntExact(value) : (Object) value;
        }
        String got = String.valueOf(method.invoke(desk, arguments));
        if (!got.equals(parts.group(5))) {
            tell("answered " + got + ": " + line);
        }
        if (parts.group(2) != null) {
            variables.put(parts.group(2), got);
            if (!method.getReturnType().getName().equals(parts.group(1))) {
                tell("answers " + method.getReturnType() + ": " + line);
            }
        }
    }

    private static Method methodNamed(String name) {
        for (Method method : MainframeDesk.class.getDeclaredMethods()) {
            if (Modifier.isPublic(method.getModifiers()) && method.getName().equals(name)) {
                return method;
            }
        }
        return null;
    }
}
