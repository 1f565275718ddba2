/**
 * Dancers in a ring, the figures that they do, and scripts that call the figures.
 *
 * <p>Every row is made in the constructor and used again, so that no call makes an object.
 */
public final class DanceFigures {
    public static final int NO_SUCH = -1;
    public static final int BAD_VALUE = -2;
    public static final int TOO_MANY = -3;
    public static final int NOT_POSSIBLE = -4;
    public static final int NONE = -5;
    public static final int SWAP = 0, TURN = 1, RING = 2, REVERSE = 3, CALL = 4;

    private static final int PLACES = 10;
    private static final int FACES = 4;
    private static final int HALF_TURN = 2;
    private static final int FIGURES = 8;
    private static final int MAX_MOVES = 10;
    private static final int MAX_STEPS = 120;
    private static final int MAX_TIMES = 9;
    private static final int MAX_TEXT = 80;
    private static final int FIRST_SIGN = 32;
    private static final int LAST_SIGN = 126;
    private static final int MAX_STATES = 5;
    private static final int MAX_WAY = 4;
    // The codes of dance and run that tell where it stops are this number minus the place.
    private static final int STOPPED = -100;
    // No effect has a higher order: cycles of 5, 3 and 2 places, each of which comes back
    // with an odd number of quarters, need lcm(20, 12, 8) times.
    private static final int MAX_ORDER = 120;

    private final State present = new State();
    private final State snapshot = new State();
    private boolean hasSnapshot = false;
    private final History history = new History();
    private final Script script = new Script();
    private final Plan plan = new Plan();
    private final Search search = new Search();
    private final Ring trial = new Ring();
    private final Ring otherTrial = new Ring();

    public DanceFigures() {
    }

    // ---- figures

    public int add(int figure, int kind, int a, int b) {
        if (!isFigure(figure)) {
            return NO_SUCH;
        }
        if (!isMove(figure, kind, a, b)) {
            return BAD_VALUE;
        }
        Figures figures = present.figures;
        int newSteps = kind == CALL ? plan.stepCount(a) : 1;
        if (figures.size(figure) >= MAX_MOVES || !plan.hasRoom(figures, figure, newSteps)) {
            return TOO_MANY;
        }
        history.keep(present);
        figures.put(figure, codeOf(kind, a, b));
        plan.workOut(figures);
        return figures.size(figure);
    }

    public int drop(int figure) {
        if (!isFigure(figure)) {
            return NO_SUCH;
        }
        Figures figures = present.figures;
        if (figures.size(figure) == 0) {
            return NOT_POSSIBLE;
        }
        history.keep(present);
        figures.cut(figure);
        plan.workOut(figures);
        return figures.size(figure);
    }

    // ---- dancers

    public int hold(int dancer, int other) {
        if (!isPlace(dancer) || !isPlace(other)) {
            return NO_SUCH;
        }
        if (dancer == other) {
            return BAD_VALUE;
        }
        Holds holds = present.holds;
        if (holds.partner(dancer) != NONE || holds.partner(other) != NONE
                || !areNeighbors(present.ring.placeOf(dancer), present.ring.placeOf(other))) {
            return NOT_POSSIBLE;
        }
        history.keep(present);
        holds.join(dancer, other);
        return holds.pairs();
    }

    public int release(int dancer) {
        if (!isPlace(dancer)) {
            return NO_SUCH;
        }
        int other = present.holds.partner(dancer);
        if (other == NONE) {
            return NOT_POSSIBLE;
        }
        history.keep(present);
        present.holds.part(dancer, other);
        return other;
    }

    public int dance(int figure, int times, boolean isBackwards) {
        if (!isFigure(figure)) {
            return NO_SUCH;
        }
        if (times < 1 || times > MAX_TIMES) {
            return BAD_VALUE;
        }
        int made = tryOut(figure, times, isBackwards);
        if (made != NONE) {
            return STOPPED - made;
        }
        history.keep(present);
        return carryOut(figure, times);
    }

    public int goHome() {
        history.keep(present);
        int changed = PLACES - present.ring.homeCount();
        present.ring.settle();
        present.releasedHolds += present.holds.partNotNeighbors(present.ring);
        return changed;
    }

    // ---- text

    public int append(int character) {
        if (character < FIRST_SIGN || character > LAST_SIGN) {
            return BAD_VALUE;
        }
        if (script.length() >= MAX_TEXT) {
            return TOO_MANY;
        }
        script.put(character);
        return script.length();
    }

    public int clearText() {
        int length = script.length();
        script.empty();
        return length;
    }

    public int fault() {
        return script.firstFault();
    }

    public int run() {
        int wrong = script.firstFault();
        if (wrong != NONE) {
            return STOPPED - wrong;
        }
        history.keep(present);
        return carryOutScript();
    }

    // ---- history and snapshot

    public int undo() {
        if (!history.takeLatest(present)) {
            return NONE;
        }
        plan.workOut(present.figures);
        return history.size();
    }

    public int save() {
        snapshot.copyFrom(present);
        hasSnapshot = true;
        return present.ring.homeCount();
    }

    public int restore() {
        if (!hasSnapshot) {
            return NOT_POSSIBLE;
        }
        history.keep(present);
        present.copyFrom(snapshot);
        plan.workOut(present.figures);
        return present.ring.homeCount();
    }

    // ---- queries; they change nothing

    public int dancer(int dancer, int what) {
        if (!isPlace(dancer)) {
            return NO_SUCH;
        }
        int place = present.ring.placeOf(dancer);
        switch (what) {
            case 0: return place;
            case 1: return present.ring.faceAt(place);
            case 2: return present.holds.partner(dancer);
            default: return BAD_VALUE;
        }
    }

    public int at(int place) {
        return isPlace(place) ? present.ring.dancerAt(place) : NO_SUCH;
    }

    public int move(int figure, int move, int what) {
        if (!isFigure(figure) || move < 0 || move >= present.figures.size(figure)) {
            return NO_SUCH;
        }
        int code = present.figures.code(figure, move);
        switch (what) {
            case 0: return kindOf(code);
            case 1: return firstOf(code);
            case 2: return secondOf(code);
            default: return BAD_VALUE;
        }
    }

    public int figure(int figure, int what) {
        if (!isFigure(figure)) {
            return NO_SUCH;
        }
        Ring effect = plan.effectOf(figure);
        switch (what) {
            case 0: return present.figures.size(figure);
            case 1: return plan.stepCount(figure);
            case 2: return orderOf(effect);
            case 3: return PLACES - effect.placedCount();
            case 4: return PLACES - effect.straightCount();
            case 5: return effect.oddness();
            case 6: return plan.calledBy(figure);
            case 7: return plan.callersOf(figure);
            default: return BAD_VALUE;
        }
    }

    public int effect(int figure, int place, boolean isFace) {
        if (!isFigure(figure) || !isPlace(place)) {
            return NO_SUCH;
        }
        Ring effect = plan.effectOf(figure);
        int target = effect.placeOf(place);
        return isFace ? effect.faceAt(target) : target;
    }

    public int alike(int figure, int other) {
        if (!isFigure(figure) || !isFigure(other)) {
            return NO_SUCH;
        }
        return plan.effectOf(figure).isSameAs(plan.effectOf(other)) ? 1 : 0;
    }

    public int commute(int figure, int other) {
        if (!isFigure(figure) || !isFigure(other)) {
            return NO_SUCH;
        }
        trial.copyFrom(plan.effectOf(figure));
        trial.follow(plan.effectOf(other));
        otherTrial.copyFrom(plan.effectOf(other));
        otherTrial.follow(plan.effectOf(figure));
        return trial.isSameAs(otherTrial) ? 1 : 0;
    }

    public int count(int what) {
        switch (what) {
            case 0: return present.ring.homeCount();
            case 1: return present.ring.placedCount();
            case 2: return present.holds.pairs();
            case 3: return present.figures.usedCount();
            case 4: return history.size();
            case 5: return script.length();
            default: return BAD_VALUE;
        }
    }

    public int total(int what) {
        switch (what) {
            case 0: return present.dancedCalls;
            case 1: return present.madeSteps;
            case 2: return present.releasedHolds;
            default: return BAD_VALUE;
        }
    }

    // ---- what would be; nothing is changed

    public int blockedAt(int figure, boolean isBackwards) {
        return isFigure(figure) ? tryOut(figure, 1, isBackwards) : NO_SUCH;
    }

    public int homeIn(int figure) {
        if (!isFigure(figure)) {
            return NO_SUCH;
        }
        trial.copyFrom(present.ring);
        return timesUntilHome(trial, plan.effectOf(figure));
    }

    public int wayHome(int what) {
        if (what < 0 || what > MAX_WAY) {
            return BAD_VALUE;
        }
        int length = search.shortest(present.ring, plan);
        if (what == 0 || length == NONE) {
            return length;
        }
        return what <= length ? search.figureOf(what - 1) : NONE;
    }

    public double distance() {
        return (double) present.ring.placesFromHome() / PLACES;
    }

    // ---- what several calls of the face need

    /** Leaves the end of the dance in trial; answers the steps before a stop, or NONE. */
    private int tryOut(int figure, int times, boolean isBackwards) {
        trial.copyFrom(present.ring);
        int steps = plan.stepCount(figure);
        int made = 0;
        for (int time = 0; time < times; time++) {
            for (int i = 0; i < steps; i++) {
                trial.make(plan.stepInOrder(figure, i, isBackwards));
                if (!present.holds.areKept(trial)) {
                    return made;
                }
                made++;
            }
        }
        return NONE;
    }

    /** Takes over what tryOut has left in trial. */
    private int carryOut(int figure, int times) {
        int made = plan.stepCount(figure) * times;
        present.ring.copyFrom(trial);
        present.dancedCalls++;
        present.madeSteps += made;
        return made;
    }

    /** The text must be a complete script. */
    private int carryOutScript() {
        int calls = 0;
        int figure = 0;
        int times = 1;
        boolean isBackwards = false;
        for (int i = 0; i <= script.length(); i++) {
            int sign = script.signOrEnd(i);
            if (sign == Script.END_OF_CALL) {
                if (tryOut(figure, times, isBackwards) != NONE) {
                    return calls;
                }
                carryOut(figure, times);
                calls++;
            } else if (Script.isLetter(sign)) {
                figure = sign - Script.FIRST_LETTER;
                times = 1;
                isBackwards = false;
            } else if (sign == Script.BACKWARDS) {
                isBackwards = true;
            } else {
                times = sign - '0';
            }
        }
        return calls;
    }

    private int orderOf(Ring effect) {
        trial.copyFrom(effect);
        return 1 + timesUntilHome(trial, effect);
    }

    private static int timesUntilHome(Ring ring, Ring effect) {
        for (int times = 0; times < MAX_ORDER; times++) {
            if (ring.isHome()) {
                return times;
            }
            ring.follow(effect);
        }
        return NONE;
    }

    private static boolean isFigure(int figure) {
        return figure >= 0 && figure < FIGURES;
    }

    /** Dancers have the same numbers as places. */
    private static boolean isPlace(int place) {
        return place >= 0 && place < PLACES;
    }

    private static boolean areNeighbors(int place, int other) {
        int apart = Math.abs(place - other);
        return apart == 1 || apart == PLACES - 1;
    }

    private static boolean isMove(int figure, int kind, int a, int b) {
        switch (kind) {
            case SWAP:
            case REVERSE: return a >= 0 && a < b && b < PLACES;
            case TURN: return isPlace(a) && b >= 1 && b < FACES;
            case RING: return a >= 1 && a < PLACES && b == 0;
            case CALL: return a >= 0 && a < figure && b == 0;
            default: return false;
        }
    }

    // A move is kept as one number, as a and b have one digit each.

    private static int codeOf(int kind, int a, int b) {
        return kind * 100 + a * 10 + b;
    }

    private static int kindOf(int code) {
        return code / 100;
    }

    private static int firstOf(int code) {
        return code / 10 % 10;
    }

    private static int secondOf(int code) {
        return code % 10;
    }

    private static int undoing(int code) {
        int kind = kindOf(code);
        int a = firstOf(code);
        int b = secondOf(code);
        if (kind == TURN) {
            return codeOf(kind, a, FACES - b);
        }
        return kind == RING ? codeOf(kind, PLACES - a, b) : code;
    }

    // Indices that come out of rows are looked at here, so that no row is ever left.

    private static int read(int[] row, int index) {
        return index >= 0 && index < row.length ? row[index] : 0;
    }

    private static void write(int[] row, int index, int value) {
        if (index >= 0 && index < row.length) {
            row[index] = value;
        }
    }

    private static void copy(int[] from, int[] to) {
        System.arraycopy(from, 0, to, 0, Math.min(from.length, to.length));
    }

    /**
     * Who is at which place, with which face.
     *
     * <p>An effect is kept in the same way, as what it makes of all dancers at home: then a
     * figure is done, and effects are put together, by the same few functions.
     */
    private static final class Ring {
        private final int[] who = new int[PLACES];
        private final int[] face = new int[PLACES];
        private final int[] oldWho = new int[PLACES];
        private final int[] oldFace = new int[PLACES];

        Ring() {
            settle();
        }

        void settle() {
            for (int place = 0; place < PLACES; place++) {
                who[place] = place;
                face[place] = 0;
            }
        }

        void copyFrom(Ring other) {
            copy(other.who, who);
            copy(other.face, face);
        }

        int dancerAt(int place) {
            return read(who, place);
        }

        int faceAt(int place) {
            return read(face, place);
        }

        int placeOf(int dancer) {
            for (int place = 0; place < PLACES; place++) {
                if (who[place] == dancer) {
                    return place;
                }
            }
            return NO_SUCH;
        }

        void make(int step) {
            int a = firstOf(step);
            int b = secondOf(step);
            switch (kindOf(step)) {
                case SWAP:
                    exchange(a, b);
                    break;
                case TURN:
                    turn(a, b);
                    break;
                case RING:
                    shift(a);
                    break;
                case REVERSE:
                    mirror(a, b);
                    break;
                default:
                    break;
            }
        }

        private void exchange(int place, int other) {
            int dancer = read(who, place);
            int itsFace = read(face, place);
            write(who, place, read(who, other));
            write(face, place, read(face, other));
            write(who, other, dancer);
            write(face, other, itsFace);
        }

        private void turn(int place, int quarters) {
            write(face, place, (read(face, place) + quarters) % FACES);
        }

        private void shift(int by) {
            remember();
            for (int place = 0; place < PLACES; place++) {
                int target = (place + by) % PLACES;
                write(who, target, oldWho[place]);
                write(face, target, oldFace[place]);
            }
        }

        private void mirror(int first, int last) {
            for (int place = first; place <= last; place++) {
                turn(place, HALF_TURN);
            }
            for (int k = 0; first + k < last - k; k++) {
                exchange(first + k, last - k);
            }
        }

        private void remember() {
            copy(who, oldWho);
            copy(face, oldFace);
        }

        void follow(Ring effect) {
            remember();
            for (int place = 0; place < PLACES; place++) {
                int source = effect.who[place];
                who[place] = read(oldWho, source);
                face[place] = (read(oldFace, source) + effect.face[place]) % FACES;
            }
        }

        boolean isBroughtHomeBy(Ring effect) {
            for (int place = 0; place < PLACES; place++) {
                int source = effect.who[place];
                if (read(who, source) != place
                        || (read(face, source) + effect.face[place]) % FACES != 0) {
                    return false;
                }
            }
            return true;
        }

        boolean isHome() {
            return homeCount() == PLACES;
        }

        boolean isSameAs(Ring other) {
            for (int place = 0; place < PLACES; place++) {
                if (who[place] != other.who[place] || face[place] != other.face[place]) {
                    return false;
                }
            }
            return true;
        }

        int homeCount() {
            int found = 0;
            for (int place = 0; place < PLACES; place++) {
                if (who[place] == place && face[place] == 0) {
                    found++;
                }
            }
            return found;
        }

        int placedCount() {
            int found = 0;
            for (int place = 0; place < PLACES; place++) {
                if (who[place] == place) {
                    found++;
                }
            }
            return found;
        }

        int straightCount() {
            int found = 0;
            for (int place = 0; place < PLACES; place++) {
                if (face[place] == 0) {
                    found++;
                }
            }
            return found;
        }

        int oddness() {
            int inversions = 0;
            for (int place = 0; place < PLACES; place++) {
                for (int later = place + 1; later < PLACES; later++) {
                    if (who[place] > who[later]) {
                        inversions++;
                    }
                }
            }
            return inversions % 2;
        }

        int placesFromHome() {
            int sum = 0;
            for (int place = 0; place < PLACES; place++) {
                int apart = Math.abs(place - who[place]);
                sum += Math.min(apart, PLACES - apart);
            }
            return sum;
        }
    }

    /** Which dancers hold each other. */
    private static final class Holds {
        private final int[] partners = new int[PLACES];
        private int pairs = 0;

        Holds() {
            for (int dancer = 0; dancer < PLACES; dancer++) {
                partners[dancer] = NONE;
            }
        }

        void copyFrom(Holds other) {
            copy(other.partners, partners);
            pairs = other.pairs;
        }

        int pairs() {
            return pairs;
        }

        int partner(int dancer) {
            return read(partners, dancer);
        }

        void join(int dancer, int other) {
            write(partners, dancer, other);
            write(partners, other, dancer);
            pairs++;
        }

        void part(int dancer, int other) {
            write(partners, dancer, NONE);
            write(partners, other, NONE);
            pairs--;
        }

        boolean areKept(Ring ring) {
            if (pairs == 0) {
                return true;
            }
            for (int place = 0; place < PLACES; place++) {
                if (!isKeptAt(ring, place)) {
                    return false;
                }
            }
            return true;
        }

        private boolean isKeptAt(Ring ring, int place) {
            int other = partner(ring.dancerAt(place));
            return other == NONE
                    || other == ring.dancerAt((place + 1) % PLACES)
                    || other == ring.dancerAt((place + PLACES - 1) % PLACES);
        }

        int partNotNeighbors(Ring ring) {
            int parted = 0;
            for (int place = 0; place < PLACES; place++) {
                if (!isKeptAt(ring, place)) {
                    int dancer = ring.dancerAt(place);
                    part(dancer, partner(dancer));
                    parted++;
                }
            }
            return parted;
        }
    }

    /** The moves of all figures, as they were added. */
    private static final class Figures {
        private final int[] sizes = new int[FIGURES];
        private final int[] codes = new int[FIGURES * MAX_MOVES];

        void copyFrom(Figures other) {
            copy(other.sizes, sizes);
            copy(other.codes, codes);
        }

        int size(int figure) {
            return read(sizes, figure);
        }

        int code(int figure, int move) {
            return read(codes, figure * MAX_MOVES + move);
        }

        void put(int figure, int code) {
            int size = size(figure);
            write(codes, figure * MAX_MOVES + size, code);
            write(sizes, figure, size + 1);
        }

        void cut(int figure) {
            write(sizes, figure, size(figure) - 1);
        }

        int usedCount() {
            int found = 0;
            for (int figure = 0; figure < FIGURES; figure++) {
                if (sizes[figure] > 0) {
                    found++;
                }
            }
            return found;
        }
    }

    /**
     * What follows from the moves of the figures: worked out anew whenever they change.
     *
     * <p>The steps are kept in one row for each figure, as calls of figures without steps
     * could otherwise be followed ten million times for nothing.
     */
    private static final class Plan {
        private final int[] counts = new int[FIGURES];
        private final int[] steps = new int[FIGURES * MAX_STEPS];
        private final int[] called = new int[FIGURES];
        private final int[] growth = new int[FIGURES];
        private final Ring[] effects = new Ring[FIGURES];
        private final Ring nothing = new Ring();

        Plan() {
            for (int figure = 0; figure < FIGURES; figure++) {
                effects[figure] = new Ring();
            }
        }

        void workOut(Figures figures) {
            for (int figure = 0; figure < FIGURES; figure++) {
                counts[figure] = 0;
                called[figure] = 0;
                effects[figure].settle();
                int size = figures.size(figure);
                for (int move = 0; move < size; move++) {
                    include(figure, figures.code(figure, move));
                }
            }
        }

        private void include(int figure, int code) {
            if (kindOf(code) == CALL) {
                includeCall(figure, firstOf(code));
            } else {
                putStep(figure, code);
                effectOf(figure).make(code);
            }
        }

        private void includeCall(int figure, int inner) {
            int innerSteps = stepCount(inner);
            for (int i = 0; i < innerSteps; i++) {
                putStep(figure, read(steps, inner * MAX_STEPS + i));
            }
            effectOf(figure).follow(effectOf(inner));
            write(called, figure, calledBy(figure) | calledBy(inner) | 1 << inner);
        }

        private void putStep(int figure, int step) {
            int count = stepCount(figure);
            if (count < MAX_STEPS) {
                write(steps, figure * MAX_STEPS + count, step);
                write(counts, figure, count + 1);
            }
        }

        int stepCount(int figure) {
            return read(counts, figure);
        }

        /** The step that is made as number i, from 0, when the figure is done so. */
        int stepInOrder(int figure, int i, boolean isBackwards) {
            int start = figure * MAX_STEPS;
            return isBackwards
                    ? undoing(read(steps, start + stepCount(figure) - 1 - i))
                    : read(steps, start + i);
        }

        Ring effectOf(int figure) {
            return isFigure(figure) ? effects[figure] : nothing;
        }

        int calledBy(int figure) {
            return read(called, figure);
        }

        int callersOf(int figure) {
            int callers = 0;
            for (int other = 0; other < FIGURES; other++) {
                if ((called[other] & 1 << figure) != 0) {
                    callers |= 1 << other;
                }
            }
            return callers;
        }

        /** Figures only call lower ones, so one pass upwards finds the growth of each. */
        boolean hasRoom(Figures figures, int figure, int newSteps) {
            for (int caller = 0; caller < FIGURES; caller++) {
                growth[caller] = caller == figure ? newSteps : growthByCalls(figures, caller);
                if (counts[caller] + growth[caller] > MAX_STEPS) {
                    return false;
                }
            }
            return true;
        }

        private int growthByCalls(Figures figures, int caller) {
            int sum = 0;
            int size = figures.size(caller);
            for (int move = 0; move < size; move++) {
                int code = figures.code(caller, move);
                if (kindOf(code) == CALL) {
                    sum += read(growth, firstOf(code));
                }
            }
            return sum;
        }
    }

    /** All that undo and restore bring back. */
    private static final class State {
        private final Ring ring = new Ring();
        private final Holds holds = new Holds();
        private final Figures figures = new Figures();
        private int dancedCalls = 0;
        private int madeSteps = 0;
        private int releasedHolds = 0;

        void copyFrom(State other) {
            ring.copyFrom(other.ring);
            holds.copyFrom(other.holds);
            figures.copyFrom(other.figures);
            dancedCalls = other.dancedCalls;
            madeSteps = other.madeSteps;
            releasedHolds = other.releasedHolds;
        }
    }

    /** The latest states; a new one takes the room of the oldest one. */
    private static final class History {
        private final State[] states = new State[MAX_STATES];
        private int size = 0;
        private int next = 0;

        History() {
            for (int i = 0; i < MAX_STATES; i++) {
                states[i] = new State();
            }
        }

        int size() {
            return size;
        }

        void keep(State state) {
            if (next >= 0 && next < MAX_STATES) {
                states[next].copyFrom(state);
            }
            next = (next + 1) % MAX_STATES;
            size = Math.min(size + 1, MAX_STATES);
        }

        boolean takeLatest(State target) {
            int latest = (next + MAX_STATES - 1) % MAX_STATES;
            if (size == 0 || latest < 0 || latest >= MAX_STATES) {
                return false;
            }
            target.copyFrom(states[latest]);
            next = latest;
            size--;
            return true;
        }
    }

    /** The text of calls. */
    private static final class Script {
        private static final int END_OF_CALL = ' ';
        private static final int BACKWARDS = '\'';
        private static final int FIRST_LETTER = 'A';

        // What has just been read.
        private static final int START = 0;
        private static final int LETTER = 1;
        private static final int TIMES = 2;
        private static final int MARK = 3;
        private static final int WRONG = 4;

        private final int[] signs = new int[MAX_TEXT];
        private int length = 0;

        int length() {
            return length;
        }

        void put(int sign) {
            write(signs, length, sign);
            length = Math.min(length + 1, MAX_TEXT);
        }

        void empty() {
            length = 0;
        }

        /** The end of the text ends a call just as a space does. */
        int signOrEnd(int index) {
            return index < length ? read(signs, index) : END_OF_CALL;
        }

        int firstFault() {
            int last = START;
            for (int i = 0; i < length; i++) {
                last = after(last, read(signs, i));
                if (last == WRONG) {
                    return i;
                }
            }
            return last == START ? length : NONE;
        }

        private static int after(int last, int sign) {
            if (last == START) {
                return isLetter(sign) ? LETTER : WRONG;
            }
            if (sign == END_OF_CALL) {
                return START;
            }
            if (sign == BACKWARDS && last != MARK) {
                return MARK;
            }
            return last == LETTER && sign >= '2' && sign <= '9' ? TIMES : WRONG;
        }

        private static boolean isLetter(int sign) {
            return sign >= FIRST_LETTER && sign < FIRST_LETTER + FIGURES;
        }
    }

    /** Looks for the shortest row of figures that brings all home. */
    private static final class Search {
        private final int[] row = new int[MAX_WAY];
        private final Ring[] rings = new Ring[MAX_WAY];

        Search() {
            for (int i = 0; i < MAX_WAY; i++) {
                rings[i] = new Ring();
            }
        }

        int figureOf(int index) {
            return read(row, index);
        }

        /** Leaves the row in this object; answers its length, or NONE. */
        int shortest(Ring start, Plan plan) {
            if (start.isHome()) {
                return 0;
            }
            for (int length = 1; length <= MAX_WAY; length++) {
                if (leadsHome(this, plan, start, 0, length)) {
                    return length;
                }
            }
            return NONE;
        }

        private static boolean leadsHome(Search search, Plan plan, Ring from, int depth, int length) {
            if (depth < 0 || depth >= MAX_WAY) {
                return false;
            }
            boolean isLast = depth + 1 == length;
            Ring next = search.rings[depth];
            for (int figure = 0; figure < FIGURES; figure++) {
                Ring effect = plan.effectOf(figure);
                search.row[depth] = figure;
                if (isLast) {
                    if (from.isBroughtHomeBy(effect)) {
                        return true;
                    }
                } else {
                    next.copyFrom(from);
                    next.follow(effect);
                    if (leadsHome(search, plan, next, depth + 1, length)) {
                        return true;
                    }
                }
            }
            return false;
        }
    }
}
