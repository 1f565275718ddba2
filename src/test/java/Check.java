import java.util.ArrayList;
import java.util.List;

/** What one test has found wrong. */
final class Check {
    private final List<String> faults = new ArrayList<>();
    private int checks = 0;

    void same(String call, long got, long due) {
        checks++;
        if (got != due) {
            faults.add(call + " answered " + got + ", due is " + due);
        }
    }

    void same(String call, double got, double due) {
        checks++;
        if (got != due) {
            faults.add(call + " answered " + got + ", due is " + due);
        }
    }

    void holds(String what, boolean isSo) {
        checks++;
        if (!isSo) {
            faults.add("not so: " + what);
        }
    }

    boolean isClean() {
        return faults.isEmpty();
    }

    /** A test that checks nothing has not passed. */
    boolean passed() {
        return isClean() && checks > 0;
    }

    void print() {
        int shown = Math.min(faults.size(), 20);
        for (int i = 0; i < shown; i++) {
            System.out.println("  " + faults.get(i));
        }
        if (shown < faults.size()) {
            System.out.println("  and " + (faults.size() - shown) + " more");
        }
    }
}
