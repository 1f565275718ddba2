import java.util.ArrayDeque;
import java.util.ArrayList;
import java.util.Deque;
import java.util.List;
import java.util.regex.Matcher;
import java.util.regex.Pattern;

/**
 * The document once more, in the plainest words and without any care for speed; it shares
 * no code and no way of keeping things with the program: dancers know their places here,
 * effects are found by sending one dancer through all steps, scripts are a regular expression.
 */
final class Reference {
    private static final int NO_SUCH = -1;
    private static final int BAD_VALUE = -2;
    private static final int TOO_MANY = -3;
    private static final int NOT_POSSIBLE = -4;
    private static final int NONE = -5;
    private static final Pattern SCRIPT = Pattern.compile("[A-H][2-9]?'?( [A-H][2-9]?'?)*");
    private static final Pattern ONE_CALL = Pattern.compile("([A-H])([2-9]?)('?)");

    private static final class World {
        int[] place = {0, 1, 2, 3, 4, 5, 6, 7, 8, 9};
        int[] face = new int[10];
        int[] held = {NONE, NONE, NONE, NONE, NONE, NONE, NONE, NONE, NONE, NONE};
        List<List<int[]>> figures = new ArrayList<>();
        int[] totals = new int[3];

        World() {
            for (int f = 0; f < 8; f++) {
                figures.add(new ArrayList<>());
            }
        }

        World copy() {
            World other = new World();
            other.place = place.clone();
            other.face = face.clone();
            other.held = held.clone();
            for (int f = 0; f < 8; f++) {
                other.figures.set(f, new ArrayList<>(figures.get(f)));
            }
            other.totals = totals.clone();
            return other;
        }
    }

    private World now = new World();
    private World snapshot = null;
    private final Deque<World> history = new ArrayDeque<>();
    private String text = "";

    private void record() {
        history.addLast(now.copy());
        if (history.size() > 5) {
            history.removeFirst();
        }
    }

    private static boolean within(int value, int low, int high) {
        return value >= low && value <= high;
    }

    // ---- steps

    private static long[] stepCounts(World world) {
        long[] counts = new long[8];
        for (int f = 0; f < 8; f++) {
            for (int[] move : world.figures.get(f)) {
                counts[f] += move[0] == 4 ? counts[move[1]] : 1;
            }
        }
        return counts;
    }

    private List<int[]> steps(int figure, boolean isBackwards) {
        List<List<int[]>> all = new ArrayList<>();
        for (int f = 0; f <= figure; f++) {
            List<int[]> steps = new ArrayList<>();
            for (int[] move : now.figures.get(f)) {
                if (move[0] == 4) {
                    steps.addAll(all.get(move[1]));
                } else {
                    steps.add(move);
                }
            }
            all.add(steps);
        }
        List<int[]> forwards = all.get(figure);
        if (!isBackwards) {
            return forwards;
        }
        List<int[]> backwards = new ArrayList<>();
        for (int[] step : forwards) {
            int[] undone = step.clone();
            if (step[0] == 1) {
                undone[2] = 4 - step[2];
            } else if (step[0] == 2) {
                undone[1] = 10 - step[1];
            }
            backwards.add(0, undone);
        }
        return backwards;
    }

    /** Where one dancer gets by a step, and with which face: {place, face}. */
    private static int[] moved(int[] step, int place, int face) {
        int a = step[1];
        int b = step[2];
        switch (step[0]) {
            case 0: return new int[] {place == a ? b : place == b ? a : place, face};
            case 1: return new int[] {place, place == a ? (face + b) % 4 : face};
            case 2: return new int[] {(place + a) % 10, face};
            default:
                return within(place, a, b)
                        ? new int[] {b - (place - a), (face + 2) % 4}
                        : new int[] {place, face};
        }
    }

    private static void doStep(World world, int[] step) {
        for (int d = 0; d < 10; d++) {
            int[] there = moved(step, world.place[d], world.face[d]);
            world.place[d] = there[0];
            world.face[d] = there[1];
        }
    }

    private static boolean neighbors(int p, int q) {
        return (p + 1) % 10 == q || (q + 1) % 10 == p;
    }

    private static boolean holdsAreKept(World world) {
        for (int d = 0; d < 10; d++) {
            if (world.held[d] != NONE && !neighbors(world.place[d], world.place[world.held[d]])) {
                return false;
            }
        }
        return true;
    }

    /** How many steps are made before the first one that is not possible; NONE if all are. */
    private int stepsBeforeStop(World world, int figure, int times, boolean isBackwards) {
        int made = 0;
        for (int t = 0; t < times; t++) {
            for (int[] step : steps(figure, isBackwards)) {
                doStep(world, step);
                if (!holdsAreKept(world)) {
                    return made;
                }
                made++;
            }
        }
        return NONE;
    }

    /** The dance on the present world, without history: -100 - n, or the steps that were made. */
    private int tryDance(int figure, int times, boolean isBackwards) {
        World then = now.copy();
        int stop = stepsBeforeStop(then, figure, times, isBackwards);
        if (stop != NONE) {
            return -100 - stop;
        }
        int made = steps(figure, isBackwards).size() * times;
        then.totals[0]++;
        then.totals[1] += made;
        now = then;
        return made;
    }

    private int[][] effectOf(int figure) {
        int[][] effect = new int[10][];
        for (int p = 0; p < 10; p++) {
            int[] there = {p, 0};
            for (int[] step : steps(figure, false)) {
                there = moved(step, there[0], there[1]);
            }
            effect[p] = there;
        }
        return effect;
    }

    private static int[][] oneThenOther(int[][] one, int[][] other) {
        int[][] both = new int[10][];
        for (int p = 0; p < 10; p++) {
            int[] next = other[one[p][0]];
            both[p] = new int[] {next[0], (one[p][1] + next[1]) % 4};
        }
        return both;
    }

    private static boolean equal(int[][] one, int[][] other) {
        for (int p = 0; p < 10; p++) {
            if (one[p][0] != other[p][0] || one[p][1] != other[p][1]) {
                return false;
            }
        }
        return true;
    }

    private int[][] presentFromHome() {
        int[][] effect = new int[10][];
        for (int d = 0; d < 10; d++) {
            effect[d] = new int[] {now.place[d], now.face[d]};
        }
        return effect;
    }

    private static int[][] nothing() {
        int[][] effect = new int[10][];
        for (int p = 0; p < 10; p++) {
            effect[p] = new int[] {p, 0};
        }
        return effect;
    }

    private int homeDancers() {
        int n = 0;
        for (int d = 0; d < 10; d++) {
            n += now.place[d] == d && now.face[d] == 0 ? 1 : 0;
        }
        return n;
    }

    private int pairs() {
        int n = 0;
        for (int d = 0; d < 10; d++) {
            n += now.held[d] != NONE ? 1 : 0;
        }
        return n / 2;
    }

    // ---- the face

    int add(int figure, int kind, int a, int b) {
        if (!within(figure, 0, 7)) {
            return NO_SUCH;
        }
        boolean isRight;
        switch (kind) {
            case 0: isRight = within(a, 0, 8) && within(b, a + 1, 9); break;
            case 1: isRight = within(a, 0, 9) && within(b, 1, 3); break;
            case 2: isRight = within(a, 1, 9) && b == 0; break;
            case 3: isRight = within(a, 0, 8) && within(b, a + 1, 9); break;
            case 4: isRight = within(a, 0, figure - 1) && b == 0; break;
            default: isRight = false;
        }
        if (!isRight) {
            return BAD_VALUE;
        }
        World then = now.copy();
        then.figures.get(figure).add(new int[] {kind, a, b});
        if (then.figures.get(figure).size() > 10) {
            return TOO_MANY;
        }
        for (long count : stepCounts(then)) {
            if (count > 120) {
                return TOO_MANY;
            }
        }
        record();
        now = then;
        return now.figures.get(figure).size();
    }

    int drop(int figure) {
        if (!within(figure, 0, 7)) {
            return NO_SUCH;
        }
        int size = now.figures.get(figure).size();
        if (size == 0) {
            return NOT_POSSIBLE;
        }
        record();
        now.figures.get(figure).remove(size - 1);
        return size - 1;
    }

    int hold(int dancer, int other) {
        if (!within(dancer, 0, 9) || !within(other, 0, 9)) {
            return NO_SUCH;
        }
        if (dancer == other) {
            return BAD_VALUE;
        }
        if (now.held[dancer] != NONE || now.held[other] != NONE
                || !neighbors(now.place[dancer], now.place[other])) {
            return NOT_POSSIBLE;
        }
        record();
        now.held[dancer] = other;
        now.held[other] = dancer;
        return pairs();
    }

    int release(int dancer) {
        if (!within(dancer, 0, 9)) {
            return NO_SUCH;
        }
        if (now.held[dancer] == NONE) {
            return NOT_POSSIBLE;
        }
        record();
        int other = now.held[dancer];
        now.held[dancer] = NONE;
        now.held[other] = NONE;
        return other;
    }

    int dance(int figure, int times, boolean isBackwards) {
        if (!within(figure, 0, 7)) {
            return NO_SUCH;
        }
        if (!within(times, 1, 9)) {
            return BAD_VALUE;
        }
        World before = now.copy();
        int answer = tryDance(figure, times, isBackwards);
        if (answer >= 0) {
            World after = now;
            now = before;
            record();
            now = after;
        }
        return answer;
    }

    int goHome() {
        record();
        int changed = 10 - homeDancers();
        for (int d = 0; d < 10; d++) {
            now.place[d] = d;
            now.face[d] = 0;
        }
        for (int d = 0; d < 10; d++) {
            int other = now.held[d];
            if (other != NONE && !neighbors(d, other)) {
                now.held[d] = NONE;
                now.held[other] = NONE;
                now.totals[2]++;
            }
        }
        return changed;
    }

    int append(int character) {
        if (!within(character, 32, 126)) {
            return BAD_VALUE;
        }
        if (text.length() == 80) {
            return TOO_MANY;
        }
        text = text + (char) character;
        return text.length();
    }

    int clearText() {
        int length = text.length();
        text = "";
        return length;
    }

    int fault() {
        for (int n = 1; n <= text.length(); n++) {
            Matcher matcher = SCRIPT.matcher(text.substring(0, n));
            if (!matcher.matches() && !matcher.hitEnd()) {
                return n - 1;
            }
        }
        return SCRIPT.matcher(text).matches() ? NONE : text.length();
    }

    int run() {
        if (fault() != NONE) {
            return -100 - fault();
        }
        record();
        int done = 0;
        for (String call : text.split(" ")) {
            Matcher matcher = ONE_CALL.matcher(call);
            matcher.matches();
            int times = matcher.group(2).isEmpty() ? 1 : Integer.parseInt(matcher.group(2));
            int figure = "ABCDEFGH".indexOf(matcher.group(1));
            if (tryDance(figure, times, !matcher.group(3).isEmpty()) < 0) {
                return done;
            }
            done++;
        }
        return done;
    }

    int undo() {
        if (history.isEmpty()) {
            return NONE;
        }
        now = history.removeLast();
        return history.size();
    }

    int save() {
        snapshot = now.copy();
        return homeDancers();
    }

    int restore() {
        if (snapshot == null) {
            return NOT_POSSIBLE;
        }
        record();
        now = snapshot.copy();
        return homeDancers();
    }

    int dancer(int dancer, int what) {
        if (!within(dancer, 0, 9)) {
            return NO_SUCH;
        }
        if (!within(what, 0, 2)) {
            return BAD_VALUE;
        }
        return what == 0 ? now.place[dancer] : what == 1 ? now.face[dancer] : now.held[dancer];
    }

    int at(int place) {
        for (int d = 0; d < 10; d++) {
            if (now.place[d] == place) {
                return d;
            }
        }
        return NO_SUCH;
    }

    int move(int figure, int move, int what) {
        if (!within(figure, 0, 7) || !within(move, 0, now.figures.get(figure).size() - 1)) {
            return NO_SUCH;
        }
        return within(what, 0, 2) ? now.figures.get(figure).get(move)[what] : BAD_VALUE;
    }

    int figure(int figure, int what) {
        if (!within(figure, 0, 7)) {
            return NO_SUCH;
        }
        int[][] effect = effectOf(figure);
        int n = 0;
        switch (what) {
            case 0: return now.figures.get(figure).size();
            case 1: return steps(figure, false).size();
            case 2:
                int[][] many = effect;
                for (n = 1; !equal(many, nothing()); n++) {
                    many = oneThenOther(many, effect);
                }
                return n;
            case 3:
                for (int p = 0; p < 10; p++) {
                    n += effect[p][0] != p ? 1 : 0;
                }
                return n;
            case 4:
                for (int p = 0; p < 10; p++) {
                    n += effect[p][1] != 0 ? 1 : 0;
                }
                return n;
            case 5: return exchanges(effect) % 2;
            case 6:
                for (int k = 0; k < 8; k++) {
                    n += calls(figure, k) ? 1 << k : 0;
                }
                return n;
            case 7:
                for (int k = 0; k < 8; k++) {
                    n += calls(k, figure) ? 1 << k : 0;
                }
                return n;
            default: return BAD_VALUE;
        }
    }

    /** A row of places is sorted by exchanges, which are counted. */
    private static int exchanges(int[][] effect) {
        int[] row = new int[10];
        for (int p = 0; p < 10; p++) {
            row[p] = effect[p][0];
        }
        int n = 0;
        for (int p = 0; p < 10; p++) {
            while (row[p] != p) {
                int q = row[p];
                row[p] = row[q];
                row[q] = q;
                n++;
            }
        }
        return n;
    }

    private boolean calls(int figure, int inner) {
        boolean[] reached = new boolean[8];
        reached[figure] = true;
        for (int f = figure; f >= 0; f--) {
            if (reached[f]) {
                for (int[] move : now.figures.get(f)) {
                    if (move[0] == 4) {
                        reached[move[1]] = true;
                    }
                }
            }
        }
        return inner != figure && reached[inner];
    }

    int effect(int figure, int place, boolean isFace) {
        if (!within(figure, 0, 7) || !within(place, 0, 9)) {
            return NO_SUCH;
        }
        return effectOf(figure)[place][isFace ? 1 : 0];
    }

    int alike(int figure, int other) {
        if (!within(figure, 0, 7) || !within(other, 0, 7)) {
            return NO_SUCH;
        }
        return equal(effectOf(figure), effectOf(other)) ? 1 : 0;
    }

    int commute(int figure, int other) {
        if (!within(figure, 0, 7) || !within(other, 0, 7)) {
            return NO_SUCH;
        }
        int[][] one = effectOf(figure);
        int[][] two = effectOf(other);
        return equal(oneThenOther(one, two), oneThenOther(two, one)) ? 1 : 0;
    }

    int count(int what) {
        int n = 0;
        switch (what) {
            case 0: return homeDancers();
            case 1:
                for (int d = 0; d < 10; d++) {
                    n += now.place[d] == d ? 1 : 0;
                }
                return n;
            case 2: return pairs();
            case 3:
                for (List<int[]> figure : now.figures) {
                    n += figure.isEmpty() ? 0 : 1;
                }
                return n;
            case 4: return history.size();
            case 5: return text.length();
            default: return BAD_VALUE;
        }
    }

    int total(int what) {
        return within(what, 0, 2) ? now.totals[what] : BAD_VALUE;
    }

    int blockedAt(int figure, boolean isBackwards) {
        return within(figure, 0, 7) ? stepsBeforeStop(now.copy(), figure, 1, isBackwards) : NO_SUCH;
    }

    int homeIn(int figure) {
        if (!within(figure, 0, 7)) {
            return NO_SUCH;
        }
        int[][] effect = effectOf(figure);
        int[][] there = presentFromHome();
        for (int n = 0; n < 1000; n++) {
            if (equal(there, nothing())) {
                return n;
            }
            there = oneThenOther(there, effect);
        }
        return NONE;
    }

    int wayHome(int what) {
        if (!within(what, 0, 4)) {
            return BAD_VALUE;
        }
        int[][][] effects = new int[8][][];
        for (int f = 0; f < 8; f++) {
            effects[f] = effectOf(f);
        }
        for (int length = 0; length <= 4; length++) {
            for (int number = 0; number < 1 << 3 * length; number++) {
                int[][] there = presentFromHome();
                for (int i = 0; i < length; i++) {
                    there = oneThenOther(there, effects[digit(number, length, i)]);
                }
                if (equal(there, nothing())) {
                    return what == 0 ? length : what <= length ? digit(number, length, what - 1) : NONE;
                }
            }
        }
        return NONE;
    }

    /** Digit i, from the left, of a number with so many digits to the base 8. */
    private static int digit(int number, int length, int i) {
        return number >> 3 * (length - 1 - i) & 7;
    }

    double distance() {
        int sum = 0;
        for (int d = 0; d < 10; d++) {
            int clockwise = (now.place[d] - d + 10) % 10;
            sum += Math.min(clockwise, 10 - clockwise);
        }
        return sum / 10.0;
    }
}
