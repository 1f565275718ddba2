import java.io.IOException;
import java.lang.reflect.Field;
import java.lang.reflect.InvocationTargetException;
import java.lang.reflect.Method;
import java.lang.reflect.Modifier;
import java.nio.file.Files;
import java.nio.file.Path;
import java.util.ArrayList;
import java.util.List;
import java.util.regex.Matcher;
import java.util.regex.Pattern;

/** README.md tells nothing that is not so: its example is carried out line by line. */
final class ReadmeTests {
    private static final Pattern EXAMPLE = Pattern.compile("```java\n(.*?)```", Pattern.DOTALL);
    private static final String NEW_OBJECT = "DanceFigures x = new DanceFigures();";
    private static final Pattern CALL =
            Pattern.compile("x\\.(\\w+)\\((.*)\\);\\s+// (-?\\d+(?:\\.\\d+)?)(?:\\s.*)?");

    private static final Pattern PUBLIC_CALL =
            Pattern.compile("    public (?:int|double) (\\w+)\\((.*)\\) \\{");

    private ReadmeTests() {
    }

    static void addTo(Tests tests) {
        tests.put("README.md: the calls of the example answer what stands there", ReadmeTests::example);
        tests.put("README.md: every call and every constant is told", ReadmeTests::names);
        tests.put("README.md: it tells how the tests are run", ReadmeTests::testCommand);
    }

    private static String text(String path) {
        try {
            return Files.readString(Path.of(path));
        } catch (IOException thrown) {
            throw new IllegalStateException(thrown);
        }
    }

    private static void example(Check check) {
        Matcher examples = EXAMPLE.matcher(text("README.md"));
        int calls = 0;
        while (examples.find()) {
            DanceFigures x = null;
            for (String line : examples.group(1).split("\n")) {
                Matcher call = CALL.matcher(line);
                if (line.equals(NEW_OBJECT)) {
                    x = new DanceFigures();
                } else if (call.matches() && x != null) {
                    double due = Double.parseDouble(call.group(3));
                    check.same(line, answer(x, call.group(1), call.group(2)), due);
                    calls++;
                } else {
                    check.holds("a line that can be tried: " + line, line.isBlank() || line.startsWith("// "));
                }
            }
        }
        check.holds("there is an example", calls > 0);
    }

    private static double answer(DanceFigures x, String name, String arguments) {
        List<Object> values = new ArrayList<>();
        if (!arguments.isEmpty()) {
            for (String argument : arguments.split(", ")) {
                values.add(value(argument));
            }
        }
        try {
            return ((Number) methodOf(name).invoke(x, values.toArray())).doubleValue();
        } catch (IllegalAccessException | InvocationTargetException thrown) {
            throw new IllegalStateException(thrown);
        }
    }

    private static Object value(String argument) {
        if (argument.equals("true") || argument.equals("false")) {
            return Boolean.valueOf(argument);
        }
        if (argument.startsWith("'")) {
            return (int) argument.charAt(argument.length() - 2);
        }
        if (argument.startsWith("DanceFigures.")) {
            return constant(argument.substring("DanceFigures.".length()));
        }
        return Integer.valueOf(argument);
    }

    private static int constant(String name) {
        try {
            return DanceFigures.class.getField(name).getInt(null);
        } catch (NoSuchFieldException | IllegalAccessException thrown) {
            throw new IllegalStateException(thrown);
        }
    }

    private static Method methodOf(String name) {
        for (Method method : DanceFigures.class.getDeclaredMethods()) {
            if (method.getName().equals(name) && Modifier.isPublic(method.getModifiers())) {
                return method;
            }
        }
        throw new IllegalStateException("no call " + name);
    }

    private static void names(Check check) {
        String page = text("README.md");
        Matcher calls = PUBLIC_CALL.matcher(text("src/main/java/DanceFigures.java"));
        int found = 0;
        while (calls.find()) {
            String told = calls.group(1) + "(" + calls.group(2).replaceAll("\\w+ (\\w+)", "$1") + ")";
            check.holds("a row for " + told, page.contains("\n| `" + told + "` |"));
            found++;
        }
        check.same("the calls of the class", found, 26);
        for (Field field : DanceFigures.class.getFields()) {
            int number = constant(field.getName());
            String code = "\n| " + number + " | `" + field.getName() + "` |";
            String kind = "`" + field.getName() + "` (" + number + ")";
            check.holds("the number of " + field.getName(), page.contains(code) || page.contains(kind));
        }
    }

    private static void testCommand(Check check) {
        String page = text("README.md");
        check.holds("the command stands in a line of its own", page.contains("```sh\n.ci/run\n```"));
        check.holds("the command is there, and can be carried out", Files.isExecutable(Path.of(".ci/run")));
    }
}
