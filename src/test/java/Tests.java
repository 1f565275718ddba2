import java.util.LinkedHashMap;
import java.util.Map;
import java.util.function.Consumer;

/** The tests by their names, in the order in which they were put. */
final class Tests {
    /** Far above what any test needs: the longest one takes some seconds. */
    private static final long LIMIT_IN_MILLISECONDS = 300_000;

    private final Map<String, Consumer<Check>> tests = new LinkedHashMap<>();

    /** A second test of the same name would hide the first one. */
    void put(String name, Consumer<Check> test) {
        if (tests.put(name, test) != null) {
            throw new IllegalStateException("two tests with the name " + name);
        }
    }

    /** Runs the tests whose names begin so; false if one fails, or if there is none. */
    boolean pass(String beginning) {
        boolean isAnyRun = false;
        boolean isAllRight = true;
        for (Map.Entry<String, Consumer<Check>> test : tests.entrySet()) {
            if (test.getKey().startsWith(beginning)) {
                Check check = new Check();
                isAnyRun = true;
                // a call that never ends would go on beside the other tests: no more of them
                if (!ends(test.getValue(), check)) {
                    System.out.println("FAIL " + test.getKey() + ": it does not end");
                    return false;
                }
                System.out.println((check.passed() ? "PASS " : "FAIL ") + test.getKey());
                check.print();
                isAllRight &= check.passed();
            }
        }
        return isAnyRun && isAllRight;
    }

    private static boolean ends(Consumer<Check> test, Check check) {
        Thread thread = new Thread(() -> runOne(test, check));
        thread.setDaemon(true);
        thread.start();
        try {
            thread.join(LIMIT_IN_MILLISECONDS);
        } catch (InterruptedException thrown) {
            return false;
        }
        return !thread.isAlive();
    }

    private static void runOne(Consumer<Check> test, Check check) {
        try {
            test.accept(check);
        } catch (RuntimeException | StackOverflowError thrown) {
            check.holds("no call throws: " + thrown, false);
            thrown.printStackTrace(System.out);
        }
    }
}
