import java.io.IOException;
import java.lang.reflect.Constructor;
import java.lang.reflect.Field;
import java.lang.reflect.Method;
import java.lang.reflect.Modifier;
import java.nio.file.Files;
import java.nio.file.Path;
import java.util.Arrays;
import java.util.Set;
import java.util.TreeSet;
import java.util.regex.Matcher;
import java.util.regex.Pattern;

/** The face of the class, and those rules of LANGUAGE.md that can be seen from outside. */
final class FaceTests {
    private static final String[] FACE = {
        "int add(int, int, int, int)", "int drop(int)", "int hold(int, int)", "int release(int)",
        "int dance(int, int, boolean)", "int goHome()", "int append(int)", "int clearText()",
        "int fault()", "int run()", "int undo()", "int save()", "int restore()",
        "int dancer(int, int)", "int at(int)", "int move(int, int, int)", "int figure(int, int)",
        "int effect(int, int, boolean)", "int alike(int, int)", "int commute(int, int)",
        "int count(int)", "int total(int)", "int blockedAt(int, boolean)", "int homeIn(int)",
        "int wayHome(int)", "double distance()"
    };
    private static final String[] CONSTANTS = {
        "NO_SUCH", "BAD_VALUE", "TOO_MANY", "NOT_POSSIBLE", "NONE", "SWAP", "TURN", "RING",
        "REVERSE", "CALL"
    };
    private static final String[] NOT_IN_THE_SOURCE = {
        "import", "package", "synchronized", "assert", "finally", "try", "catch", "throw", "throws",
        "volatile", "transient", "native", "protected", "Object", "String", "System.out"
    };

    private FaceTests() {
    }

    static void addTo(Tests tests) {
        tests.put("the public face", FaceTests::face);
        tests.put("the constants", FaceTests::constants);
        tests.put("rule 1: nothing else is visible", FaceTests::nothingElse);
        tests.put("rules 2 to 6: words that the source does without", FaceTests::words);
        tests.put("rule 11: sizes", FaceTests::sizes);
    }

    private static void face(Check check) {
        check.holds("the class is public and final",
                DanceFigures.class.getModifiers() == (Modifier.PUBLIC | Modifier.FINAL));
        Set<String> got = new TreeSet<>();
        for (Method method : DanceFigures.class.getDeclaredMethods()) {
            if (Modifier.isPublic(method.getModifiers())) {
                check.holds(method + " is no static method", !Modifier.isStatic(method.getModifiers()));
                String name = method.toString().replace("public ", "").replace("DanceFigures.", "");
                got.add(name.replace(",", ", "));
            }
        }
        Set<String> due = new TreeSet<>(Arrays.asList(FACE));
        check.holds("the methods are " + due + ", found " + got, got.equals(due));
        Constructor<?>[] constructors = DanceFigures.class.getDeclaredConstructors();
        check.holds("there is one public constructor without arguments", constructors.length == 1
                && constructors[0].getParameterCount() == 0
                && Modifier.isPublic(constructors[0].getModifiers()));
    }

    private static void constants(Check check) {
        check.same("NO_SUCH", DanceFigures.NO_SUCH, -1);
        check.same("BAD_VALUE", DanceFigures.BAD_VALUE, -2);
        check.same("TOO_MANY", DanceFigures.TOO_MANY, -3);
        check.same("NOT_POSSIBLE", DanceFigures.NOT_POSSIBLE, -4);
        check.same("NONE", DanceFigures.NONE, -5);
        check.same("SWAP", DanceFigures.SWAP, 0);
        check.same("TURN", DanceFigures.TURN, 1);
        check.same("RING", DanceFigures.RING, 2);
        check.same("REVERSE", DanceFigures.REVERSE, 3);
        check.same("CALL", DanceFigures.CALL, 4);
    }

    private static void nothingElse(Check check) {
        Set<String> face = new TreeSet<>();
        for (Method method : DanceFigures.class.getDeclaredMethods()) {
            int modifiers = method.getModifiers();
            check.holds(method + " is public or private",
                    Modifier.isPublic(modifiers) || Modifier.isPrivate(modifiers));
            if (Modifier.isPublic(modifiers)) {
                face.add(method.getName());
            }
        }
        for (Method method : DanceFigures.class.getDeclaredMethods()) {
            check.holds(method + " bears no name of the face", !face.contains(method.getName())
                    || Modifier.isPublic(method.getModifiers()));
        }
        for (Field field : DanceFigures.class.getDeclaredFields()) {
            int modifiers = field.getModifiers();
            boolean isConstant = Arrays.asList(CONSTANTS).contains(field.getName())
                    && modifiers == (Modifier.PUBLIC | Modifier.STATIC | Modifier.FINAL);
            check.holds(field + " is a constant of the face or private",
                    isConstant || Modifier.isPrivate(modifiers));
            check.holds(field + " is final if it is static",
                    !Modifier.isStatic(modifiers) || Modifier.isFinal(modifiers));
        }
        for (Class<?> inside : DanceFigures.class.getDeclaredClasses()) {
            check.holds(inside + " is static", Modifier.isStatic(inside.getModifiers()));
            check.holds(inside + " is not public", !Modifier.isPublic(inside.getModifiers()));
            for (Method method : inside.getDeclaredMethods()) {
                check.holds(method + " bears no name of the face", !face.contains(method.getName()));
            }
        }
    }

    private static String source() {
        try {
            return Files.readString(Path.of("src/main/java/DanceFigures.java"));
        } catch (IOException thrown) {
            throw new IllegalStateException(thrown);
        }
    }

    private static String withoutComments(String source) {
        return Pattern.compile("/\\*.*?\\*/|//[^\n]*", Pattern.DOTALL).matcher(source).replaceAll("");
    }

    private static void words(Check check) {
        String code = withoutComments(source());
        for (String word : NOT_IN_THE_SOURCE) {
            Matcher matcher = Pattern.compile("\\b" + Pattern.quote(word) + "\\b").matcher(code);
            check.holds("the source does without " + word, !matcher.find());
        }
        check.holds("the source does without lambdas", !code.contains("->") && !code.contains("::"));
        Matcher library = Pattern.compile("\\b([A-Z]\\w*)\\.([a-z]\\w*)\\(").matcher(code);
        Set<String> allowed = Set.of("System.arraycopy", "Math.abs", "Math.min", "Math.max");
        while (library.find()) {
            String call = library.group(1) + "." + library.group(2);
            boolean isOwn = code.contains("class " + library.group(1));
            check.holds(call + " is in the library of rule 4", isOwn || allowed.contains(call));
        }
    }

    private static void sizes(Check check) {
        Class<?>[] inside = DanceFigures.class.getDeclaredClasses();
        check.holds("at most twelve classes", inside.length + 1 <= 12);
        for (Method method : DanceFigures.class.getDeclaredMethods()) {
            check.holds(method + " takes at most seven", method.getParameterCount() <= 7);
        }
        for (Class<?> one : inside) {
            check.holds(one + " has at most twenty fields beside its constants", fields(one) <= 20);
        }
        check.holds("at most twenty fields beside the constants", fields(DanceFigures.class) <= 20);
    }

    private static int fields(Class<?> one) {
        int found = 0;
        for (Field field : one.getDeclaredFields()) {
            found += Modifier.isStatic(field.getModifiers()) ? 0 : 1;
        }
        return found;
    }
}
