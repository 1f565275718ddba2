import java.util.LinkedHashMap;
import java.util.Map;
import java.util.function.Consumer;

/** Runs every test of the project: a line PASS or FAIL for each, exit code 1 if one fails. */
public final class AllTests {
    private AllTests() {
    }

    public static void main(String[] args) {
        Map<String, Consumer<Check>> tests = new LinkedHashMap<>();
        PromiseTests.addTo(tests);
        FaceTests.addTo(tests);
        RandomRuns.addTo(tests);
        boolean isAllRight = true;
        for (Map.Entry<String, Consumer<Check>> test : tests.entrySet()) {
            isAllRight &= passes(test.getKey(), test.getValue());
        }
        System.exit(isAllRight ? 0 : 1);
    }

    private static boolean passes(String name, Consumer<Check> test) {
        Check check = new Check();
        try {
            test.accept(check);
        } catch (RuntimeException | StackOverflowError thrown) {
            check.holds("no call throws: " + thrown, false);
            thrown.printStackTrace(System.out);
        }
        System.out.println((check.passed() ? "PASS " : "FAIL ") + name);
        check.print();
        return check.passed();
    }
}
