import java.util.function.Consumer;
import java.util.function.ToIntFunction;

/** The order in which error codes are checked, and that a refused call changes nothing. */
final class RefusedCalls extends Basics {
    private RefusedCalls() {
    }

    static void addTo(Tests tests) {
        orderOfCodes(tests);
        refusedFigures(tests);
        refusedDancers(tests);
        refusedTexts(tests);
        asking(tests);
    }

    /**
     * Much of all: figures that call each other, 2 full of moves, 3 and 6 full of steps, dancers
     * away from home, a pair that 5 would part at its second step, a snapshot, five states, a text.
     */
    private static DanceFigures crowded() {
        DanceFigures x = withSteps(120);
        putOften(x, 10, 2, CALL, 0, 0);
        x.drop(0);
        x.add(0, SWAP, 8, 9);
        x.dance(0, 1, false);
        x.save();
        put(x, 6, CALL, 3, 0);
        put(x, 5, TURN, 4, 3, SWAP, 0, 1);
        x.hold(1, 2);
        write(x, "F A'");
        return x;
    }

    /** The same with 80 characters. */
    private static DanceFigures crowdedText() {
        DanceFigures x = crowded();
        write(x, "A ".repeat(40));
        return x;
    }

    // ---- the order

    private static void orderOfCodes(Tests tests) {
        tests.put("order of codes: add, NO_SUCH before BAD_VALUE", check -> {
            check.same("kind", new DanceFigures().add(8, 5, 0, 1), NO_SUCH);
            check.same("a", new DanceFigures().add(-1, RING, 10, 0), NO_SUCH);
            check.same("b", new DanceFigures().add(-1, TURN, 0, 4), NO_SUCH);
            check.same("a call of itself", new DanceFigures().add(8, CALL, 8, 0), NO_SUCH);
        });
        tests.put("order of codes: add, BAD_VALUE before TOO_MANY", check -> {
            DanceFigures x = crowded();
            check.same("kind, ten moves", x.add(2, 5, 0, 1), BAD_VALUE);
            check.same("a, ten moves", x.add(2, RING, 0, 0), BAD_VALUE);
            check.same("b, 120 steps", x.add(6, TURN, 0, 0), BAD_VALUE);
            check.same("a call of itself, 120 steps", x.add(6, CALL, 6, 0), BAD_VALUE);
            check.same("a call of a higher one, ten moves", x.add(2, CALL, 3, 0), BAD_VALUE);
        });
        tests.put("order of codes: hold, NO_SUCH before BAD_VALUE", check -> {
            check.same("both are the same", new DanceFigures().hold(10, 10), NO_SUCH);
            check.same("both are the same below", new DanceFigures().hold(-1, -1), NO_SUCH);
        });
        tests.put("order of codes: hold, NO_SUCH before NOT_POSSIBLE", check -> {
            DanceFigures x = crowded();
            check.same("one holds", x.hold(1, 10), NO_SUCH);
            check.same("the other holds", x.hold(-1, 2), NO_SUCH);
        });
        tests.put("order of codes: hold, BAD_VALUE before NOT_POSSIBLE", check -> {
            DanceFigures x = crowded();
            check.same("one that holds", x.hold(1, 1), BAD_VALUE);
            check.same("one that does not", x.hold(5, 5), BAD_VALUE);
        });
        tests.put("order of codes: dance, NO_SUCH before BAD_VALUE", check -> {
            check.same("none", new DanceFigures().dance(8, 0, false), NO_SUCH);
            check.same("ten", new DanceFigures().dance(-1, 10, true), NO_SUCH);
        });
        tests.put("order of codes: dance, BAD_VALUE before the steps to a stop", check -> {
            DanceFigures x = crowded();
            check.same("a stop", x.dance(5, 1, false), -101);
            check.same("none", x.dance(5, 0, false), BAD_VALUE);
            check.same("ten", x.dance(5, 10, false), BAD_VALUE);
        });
        tests.put("order of codes: append, BAD_VALUE before TOO_MANY", check -> {
            DanceFigures x = crowdedText();
            check.same("31", x.append(31), BAD_VALUE);
            check.same("127", x.append(127), BAD_VALUE);
            check.same("32", x.append(32), TOO_MANY);
        });
        tests.put("order of codes: dancer, NO_SUCH before BAD_VALUE", check -> {
            check.same("above", new DanceFigures().dancer(10, 3), NO_SUCH);
            check.same("below", new DanceFigures().dancer(-1, -1), NO_SUCH);
        });
        tests.put("order of codes: move, NO_SUCH before BAD_VALUE", check -> {
            DanceFigures x = with(SWAP, 0, 1);
            check.same("figure above", x.move(8, 0, 3), NO_SUCH);
            check.same("figure below", x.move(-1, 0, -1), NO_SUCH);
            check.same("move above", x.move(0, 1, 3), NO_SUCH);
            check.same("move below", x.move(0, -1, -1), NO_SUCH);
        });
        tests.put("order of codes: figure, NO_SUCH before BAD_VALUE", check -> {
            check.same("above", new DanceFigures().figure(8, 8), NO_SUCH);
            check.same("below", new DanceFigures().figure(-1, -1), NO_SUCH);
        });
    }

    // ---- a refused call changes nothing

    private interface Maker {
        DanceFigures make();
    }

    private static void changesNothing(Tests tests, String name, int code, ToIntFunction<DanceFigures> call) {
        changesNothing(tests, name, RefusedCalls::crowded, code, call);
    }

    private static void changesNothing(Tests tests, String name, Maker maker, int code,
            ToIntFunction<DanceFigures> call) {
        tests.put("a refused call changes nothing: " + name, check -> {
            for (int undone = 0; undone <= 5; undone++) {
                DanceFigures x = maker.make();
                check.same("the refused call", call.applyAsInt(x), code);
                isLike(check, x, maker.make(), undone);
            }
            DanceFigures x = maker.make();
            DanceFigures y = maker.make();
            call.applyAsInt(x);
            check.same("restore", x.restore(), y.restore());
            statesAreSame(check, "restored,", x, y);
        });
    }

    /** The text, the history and the state, after so many states were undone in both. */
    private static void isLike(Check check, DanceFigures x, DanceFigures y, int undone) {
        check.same("length of the text", x.count(5), y.count(5));
        check.same("fault of the text", x.fault(), y.fault());
        check.same("states", x.count(4), y.count(4));
        for (int i = 0; i < undone; i++) {
            check.same("undo", x.undo(), y.undo());
        }
        statesAreSame(check, "with " + undone + " undone,", x, y);
    }

    private static void refusedFigures(Tests tests) {
        changesNothing(tests, "add, NO_SUCH below", NO_SUCH, x -> x.add(-1, SWAP, 0, 1));
        changesNothing(tests, "add, NO_SUCH above", NO_SUCH, x -> x.add(8, SWAP, 0, 1));
        changesNothing(tests, "add, BAD_VALUE", BAD_VALUE, x -> x.add(4, SWAP, 9, 10));
        changesNothing(tests, "add, BAD_VALUE for a call of itself", BAD_VALUE, x -> x.add(4, CALL, 4, 0));
        changesNothing(tests, "add, TOO_MANY moves", TOO_MANY, x -> x.add(2, CALL, 0, 0));
        changesNothing(tests, "add, TOO_MANY steps", TOO_MANY, x -> x.add(6, SWAP, 0, 1));
        changesNothing(tests, "add, TOO_MANY steps of a caller", TOO_MANY, x -> x.add(1, SWAP, 0, 1));
        changesNothing(tests, "drop, NO_SUCH", NO_SUCH, x -> x.drop(8));
        changesNothing(tests, "drop, NOT_POSSIBLE", NOT_POSSIBLE, x -> x.drop(7));
    }

    private static void refusedDancers(Tests tests) {
        changesNothing(tests, "hold, NO_SUCH", NO_SUCH, x -> x.hold(9, 10));
        changesNothing(tests, "hold, NO_SUCH of the first", NO_SUCH, x -> x.hold(-1, 0));
        changesNothing(tests, "hold, BAD_VALUE", BAD_VALUE, x -> x.hold(5, 5));
        changesNothing(tests, "hold, NOT_POSSIBLE while one holds", NOT_POSSIBLE, x -> x.hold(2, 3));
        changesNothing(tests, "hold, NOT_POSSIBLE while the other holds", NOT_POSSIBLE, x -> x.hold(0, 1));
        changesNothing(tests, "hold, NOT_POSSIBLE from afar", NOT_POSSIBLE, x -> x.hold(4, 6));
        changesNothing(tests, "release, NO_SUCH", NO_SUCH, x -> x.release(10));
        changesNothing(tests, "release, NOT_POSSIBLE", NOT_POSSIBLE, x -> x.release(0));
        changesNothing(tests, "dance, NO_SUCH", NO_SUCH, x -> x.dance(8, 1, false));
        changesNothing(tests, "dance, BAD_VALUE", BAD_VALUE, x -> x.dance(0, 10, false));
        changesNothing(tests, "dance, BAD_VALUE for no time", BAD_VALUE, x -> x.dance(0, 0, false));
        changesNothing(tests, "dance, a step that is not possible", -101, x -> x.dance(5, 1, false));
        changesNothing(tests, "dance, the first step is not possible", -100, x -> x.dance(5, 1, true));
        changesNothing(tests, "dancer, NO_SUCH", NO_SUCH, x -> x.dancer(10, 0));
        changesNothing(tests, "at, NO_SUCH", NO_SUCH, x -> x.at(10));
    }

    private static void refusedTexts(Tests tests) {
        changesNothing(tests, "append, BAD_VALUE", BAD_VALUE, x -> x.append(127));
        changesNothing(tests, "append, TOO_MANY", RefusedCalls::crowdedText, TOO_MANY, x -> x.append('A'));
        changesNothing(tests, "run, a fault at the end", RefusedCalls::crowdedText, -180, x -> x.run());
        changesNothing(tests, "run, a fault behind a call", -103, RefusedCalls::runWithFault);
        changesNothing(tests, "run, the empty text", RefusedCalls::withoutText, -100, x -> x.run());
        tests.put("a refused call changes nothing: restore, NOT_POSSIBLE", check -> {
            DanceFigures x = with(SWAP, 0, 1);
            check.same("restore", x.restore(), NOT_POSSIBLE);
            isLike(check, x, with(SWAP, 0, 1), 0);
            check.same("no state is recorded", x.undo(), 0);
        });
    }

    private static DanceFigures withoutText() {
        DanceFigures x = crowded();
        x.clearText();
        return x;
    }

    /** The text is exchanged for one with a fault, and put back. */
    private static int runWithFault(DanceFigures x) {
        write(x, "A AA");
        int answer = x.run();
        write(x, "F A'");
        return answer;
    }

    // ---- queries, and what would be

    private static void changesNothing(Tests tests, String name, Consumer<DanceFigures> calls) {
        tests.put("queries change nothing: " + name, check -> {
            for (int undone = 0; undone <= 5; undone++) {
                DanceFigures x = crowded();
                calls.accept(x);
                isLike(check, x, crowded(), undone);
            }
            DanceFigures x = crowded();
            DanceFigures y = crowded();
            calls.accept(x);
            check.same("restore", x.restore(), y.restore());
            statesAreSame(check, "restored,", x, y);
        });
    }

    private static void asking(Tests tests) {
        changesNothing(tests, "dancer and at", x -> {
            x.dancer(0, 0);
            x.dancer(9, 1);
            x.dancer(1, 2);
            x.at(9);
        });
        changesNothing(tests, "move, count and total", x -> {
            x.move(2, 9, 2);
            x.count(0);
            x.count(3);
            x.total(1);
        });
        changesNothing(tests, "figure", x -> {
            for (int what = 0; what < 8; what++) {
                x.figure(6, what);
            }
        });
        changesNothing(tests, "effect, alike and commute", x -> {
            x.effect(6, 0, true);
            x.alike(5, 6);
            x.commute(0, 5);
        });
        changesNothing(tests, "fault", x -> x.fault());
        changesNothing(tests, "blockedAt", x -> {
            x.blockedAt(5, false);
            x.blockedAt(6, true);
        });
        changesNothing(tests, "homeIn", x -> x.homeIn(6));
        changesNothing(tests, "wayHome", x -> x.wayHome(1));
        changesNothing(tests, "distance", x -> x.distance());
        tests.put("queries change nothing: save changes the snapshot alone", check -> {
            for (int undone = 0; undone <= 5; undone++) {
                DanceFigures x = crowded();
                x.save();
                isLike(check, x, crowded(), undone);
            }
        });
    }
}
