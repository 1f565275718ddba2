import java.util.List;
import java.util.function.ToIntFunction;

/** The boundary cases of the history, of the snapshot, and of what is counted. */
final class HistoryEdges extends Basics {
    private HistoryEdges() {
    }

    static void addTo(Tests tests) {
        newObjects(tests);
        actions(tests);
        idleActions(tests);
        otherCalls(tests);
        fiveStates(tests);
        partsOfState(tests);
        otherParts(tests);
        snapshots(tests);
        counts(tests);
        totals(tests);
    }

    // ---- a new object

    private static void newObjects(Tests tests) {
        tests.put("promise 1: a new object has an empty history", check -> {
            DanceFigures x = new DanceFigures();
            check.same("states", x.count(4), 0);
            check.same("undo", x.undo(), NONE);
            check.same("states after it", x.count(4), 0);
        });
        tests.put("promise 1: a new object has no snapshot", check -> {
            DanceFigures x = new DanceFigures();
            check.same("restore", x.restore(), NOT_POSSIBLE);
            check.same("no state is recorded", x.count(4), 0);
        });
        tests.put("promise 1: a new object has no holds", check -> {
            DanceFigures x = new DanceFigures();
            check.same("pairs", x.count(2), 0);
            for (int dancer = 0; dancer < 10; dancer++) {
                check.same("whom " + dancer + " holds", x.dancer(dancer, 2), NONE);
            }
        });
        tests.put("promise 1: objects have nothing in common", HistoryEdges::ownThings);
        tests.put("512 calls: the last one is answered as the first one", HistoryEdges::lastCall);
        tests.put("512 calls: a query is answered at last as at first", HistoryEdges::lastQueries);
    }

    private static void ownThings(Check check) {
        DanceFigures x = new DanceFigures();
        String before = state(x);
        DanceFigures y = with(RING, 1, 0, TURN, 0, 1);
        y.hold(0, 1);
        y.dance(0, 1, false);
        write(y, "A");
        y.save();
        for (DanceFigures other : new DanceFigures[] {x, new DanceFigures()}) {
            check.holds("the state is as before", state(other).equals(before));
            check.same("its text", other.count(5), 0);
            check.same("its history", other.count(4), 0);
            check.same("its snapshot", other.restore(), NOT_POSSIBLE);
        }
    }

    private static void lastCall(Check check) {
        DanceFigures x = with(RING, 1, 0);
        for (int call = 2; call <= 510; call++) {
            check.same("call " + call, x.dance(0, 1, call % 2 == 1), 1);
        }
        check.same("call 511", x.total(1), 509);
        check.same("call 512", x.at(0), 9);
    }

    private static void lastQueries(Check check) {
        List<ToIntFunction<DanceFigures>> queries = List.of(x -> x.fault(), x -> x.dancer(9, 0), x -> x.at(9),
                x -> x.move(0, 0, 0), x -> x.figure(0, 2), x -> x.effect(0, 9, false), x -> x.alike(0, 7),
                x -> x.commute(0, 7), x -> x.count(0), x -> x.total(0), x -> x.blockedAt(0, true),
                x -> x.homeIn(0), x -> x.wayHome(4), x -> (int) x.distance(), x -> x.save());
        for (ToIntFunction<DanceFigures> query : queries) {
            DanceFigures x = with(RING, 1, 0);
            x.dance(0, 6, false);
            int due = query.applyAsInt(x);
            for (int call = 4; call <= 512; call++) {
                check.same("call " + call, query.applyAsInt(x), due);
            }
        }
    }

    // ---- what is recorded

    /** Figure 0 turns, 0 and 1 hold each other, the text is a script, there is a snapshot: 2 states. */
    private static DanceFigures prepared() {
        DanceFigures x = with(TURN, 0, 1);
        x.hold(0, 1);
        x.save();
        write(x, "A");
        return x;
    }

    private static void actions(Tests tests) {
        tests.put("history: add is recorded", check -> {
            DanceFigures x = prepared();
            x.add(7, SWAP, 0, 1);
            isUndone(check, x);
        });
        tests.put("history: drop is recorded", check -> {
            DanceFigures x = prepared();
            x.drop(0);
            isUndone(check, x);
        });
        tests.put("history: hold is recorded", check -> {
            DanceFigures x = prepared();
            x.hold(8, 9);
            isUndone(check, x);
        });
        tests.put("history: release is recorded", check -> {
            DanceFigures x = prepared();
            x.release(1);
            isUndone(check, x);
        });
        tests.put("history: dance is recorded", check -> {
            DanceFigures x = prepared();
            x.dance(0, 2, true);
            isUndone(check, x);
        });
        tests.put("history: goHome is recorded", check -> {
            DanceFigures x = prepared();
            x.goHome();
            isUndone(check, x);
        });
        tests.put("history: run is recorded", check -> {
            DanceFigures x = prepared();
            x.run();
            isUndone(check, x);
        });
        tests.put("history: restore is recorded", check -> {
            DanceFigures x = prepared();
            x.restore();
            isUndone(check, x);
        });
    }

    private static void isUndone(Check check, DanceFigures x) {
        check.same("one state more", x.count(4), 3);
        check.same("undo", x.undo(), 2);
        statesAreSame(check, "undone,", x, prepared());
    }

    private static void idleActions(Tests tests) {
        tests.put("history: dance is recorded, even if it changes nothing", check -> {
            DanceFigures x = prepared();
            x.dance(5, 9, false);
            isUndone(check, x);
        });
        tests.put("history: goHome is recorded, even if it changes nothing", check -> {
            DanceFigures x = new DanceFigures();
            check.same("all are at home", x.goHome(), 0);
            check.same("states", x.count(4), 1);
            check.same("undo", x.undo(), 0);
        });
        tests.put("history: restore is recorded, even if it changes nothing", check -> {
            DanceFigures x = new DanceFigures();
            x.save();
            check.same("restore", x.restore(), 10);
            check.same("states", x.count(4), 1);
            check.same("undo", x.undo(), 0);
        });
    }

    private static void otherCalls(Tests tests) {
        tests.put("history: append and clearText are not recorded", check -> {
            DanceFigures x = prepared();
            x.append('B');
            check.same("append", x.count(4), 2);
            x.clearText();
            check.same("clearText", x.count(4), 2);
            x.fault();
            check.same("fault", x.count(4), 2);
        });
        tests.put("history: save is not recorded", check -> {
            DanceFigures x = prepared();
            x.save();
            check.same("save", x.count(4), 2);
        });
        tests.put("history: undo is not recorded, it cannot be undone", check -> {
            DanceFigures x = prepared();
            check.same("undo of hold", x.undo(), 1);
            check.same("states", x.count(4), 1);
            check.same("undo of add", x.undo(), 0);
            check.same("no moves", x.figure(0, 0), 0);
        });
    }

    // ---- at most five states

    private static void fiveStates(Tests tests) {
        tests.put("history: at most 5 states, the fifth is kept", check -> {
            DanceFigures x = new DanceFigures();
            for (int states = 1; states <= 5; states++) {
                x.add(0, TURN, 0, 1);
                check.same("states", x.count(4), states);
            }
            for (int left = 4; left >= 0; left--) {
                check.same("states left", x.undo(), left);
                check.same("moves", x.figure(0, 0), left);
            }
            check.same("empty", x.undo(), NONE);
        });
        tests.put("history: the sixth state drops the oldest one", check -> {
            DanceFigures x = new DanceFigures();
            putOften(x, 6, 0, TURN, 0, 1);
            check.same("states", x.count(4), 5);
            for (int left = 4; left >= 0; left--) {
                check.same("states left", x.undo(), left);
                check.same("moves", x.figure(0, 0), left + 1);
            }
            check.same("empty", x.undo(), NONE);
            check.same("the first move stays", x.figure(0, 0), 1);
        });
        tests.put("history: undone and filled again, it drops the oldest one again", HistoryEdges::filledAgain);
        tests.put("history: many states, the latest five are kept", check -> {
            DanceFigures x = with(TURN, 0, 1);
            for (int i = 0; i < 100; i++) {
                x.dance(0, 1, false);
            }
            for (int left = 4; left >= 0; left--) {
                check.same("states left", x.undo(), left);
                check.same("calls", x.total(0), 95 + left);
            }
            check.same("empty", x.undo(), NONE);
        });
        tests.put("promise 12: undo, NONE if the history is empty, and nothing changes", check -> {
            DanceFigures x = with(RING, 1, 0);
            x.undo();
            for (int i = 0; i < 3; i++) {
                check.same("undo", x.undo(), NONE);
                check.same("states", x.count(4), 0);
            }
            statesAreSame(check, "at the beginning", x, new DanceFigures());
            check.same("it goes on", x.goHome(), 0);
            check.same("with one state", x.undo(), 0);
        });
        tests.put("promise 12: undo of the only state leaves 0", check -> {
            DanceFigures x = with(RING, 1, 0);
            check.same("undo", x.undo(), 0);
            check.same("no moves", x.figure(0, 0), 0);
        });
    }

    private static void filledAgain(Check check) {
        DanceFigures x = new DanceFigures();
        putOften(x, 6, 0, TURN, 0, 1);
        x.undo();
        x.undo();
        putOften(x, 4, 0, TURN, 1, 1);
        check.same("moves", x.figure(0, 0), 8);
        check.same("states", x.count(4), 5);
        for (int left = 4; left >= 0; left--) {
            check.same("states left", x.undo(), left);
            check.same("moves", x.figure(0, 0), left + 3);
        }
        check.same("empty", x.undo(), NONE);
    }

    // ---- what belongs to the state

    private static void partsOfState(Tests tests) {
        tests.put("state: places and faces come back", check -> {
            DanceFigures x = with(RING, 1, 0, TURN, 0, 3);
            x.dance(0, 1, false);
            x.save();
            x.dance(0, 1, false);
            x.undo();
            ringIs(check, x, "9012345678/3000000000");
            x.goHome();
            x.restore();
            ringIs(check, x, "9012345678/3000000000");
        });
        tests.put("state: figures come back, full and empty ones", check -> {
            DanceFigures x = new DanceFigures();
            putOften(x, 10, 7, TURN, 9, 1);
            x.save();
            x.drop(7);
            x.add(7, SWAP, 0, 9);
            x.add(1, CALL, 0, 0);
            x.restore();
            check.same("the tenth move", x.move(7, 9, 0), TURN);
            check.same("none of the other", x.figure(1, 0), 0);
            x.undo();
            check.same("the tenth move before", x.move(7, 9, 0), SWAP);
            check.same("one of the other", x.figure(1, 0), 1);
        });
        tests.put("state: holds come back, all five and none", check -> {
            DanceFigures x = new DanceFigures();
            x.save();
            for (int dancer = 1; dancer < 10; dancer += 2) {
                x.hold(dancer, (dancer + 1) % 10);
            }
            x.restore();
            check.same("none", x.count(2), 0);
            check.same("0 holds nobody", x.dancer(0, 2), NONE);
            x.undo();
            check.same("five", x.count(2), 5);
            check.same("0 holds 9", x.dancer(0, 2), 9);
            x.undo();
            check.same("four", x.count(2), 4);
            check.same("9 holds nobody", x.dancer(9, 2), NONE);
            check.same("and can hold again", x.hold(9, 0), 5);
        });
        tests.put("state: the totals come back, all three", HistoryEdges::totalsComeBack);
    }

    private static void totalsComeBack(Check check) {
        DanceFigures x = with(SWAP, 0, 1);
        x.save();
        x.dance(0, 3, false);
        x.hold(0, 2);
        x.goHome();
        int[] due = {1, 3, 1};
        for (int what = 0; what < 3; what++) {
            check.same("total(" + what + ")", x.total(what), due[what]);
        }
        x.restore();
        for (int what = 0; what < 3; what++) {
            check.same("restored, total(" + what + ")", x.total(what), 0);
        }
        x.undo();
        for (int what = 0; what < 3; what++) {
            check.same("undone, total(" + what + ")", x.total(what), due[what]);
        }
        x.undo();
        check.same("no release any more", x.total(2), 0);
        x.undo();
        x.undo();
        check.same("no call any more", x.total(0), 0);
        check.same("no step any more", x.total(1), 0);
    }

    private static void otherParts(Tests tests) {
        tests.put("state: the text is no part of it", check -> {
            DanceFigures x = with(TURN, 0, 1);
            write(x, "A");
            x.save();
            x.dance(0, 1, false);
            write(x, "A B");
            x.undo();
            check.same("undo leaves it", x.count(5), 3);
            x.restore();
            check.same("restore leaves it", x.count(5), 3);
            check.same("it can be run", x.run(), 2);
        });
        tests.put("state: the snapshot is no part of it, undo leaves it", check -> {
            DanceFigures x = with(TURN, 0, 1);
            x.dance(0, 1, false);
            x.save();
            x.undo();
            x.undo();
            check.same("one is not at home", x.restore(), 9);
            ringIs(check, x, "0123456789/1000000000");
        });
        tests.put("state: the history is no part of it, restore leaves it", check -> {
            DanceFigures x = new DanceFigures();
            x.save();
            putOften(x, 3, 0, TURN, 0, 1);
            x.restore();
            check.same("four states", x.count(4), 4);
            for (int left = 3; left >= 0; left--) {
                check.same("undo", x.undo(), left);
                check.same("moves", x.figure(0, 0), left);
            }
        });
    }

    // ---- save and restore

    private static void snapshots(Tests tests) {
        tests.put("promise 13: save, 10 if all are at home, 0 if none is", check -> {
            DanceFigures x = with(RING, 1, 0);
            check.same("all", x.save(), 10);
            x.dance(0, 1, false);
            check.same("none", x.save(), 0);
        });
        tests.put("promise 13: save, at their places, but with the face 0 alone", check -> {
            DanceFigures x = with(TURN, 0, 1, TURN, 9, 3, TURN, 5, 2);
            x.dance(0, 1, false);
            check.same("seven", x.save(), 7);
        });
        tests.put("promise 13: save replaces the previous snapshot", check -> {
            DanceFigures x = with(RING, 1, 0);
            x.save();
            x.dance(0, 1, false);
            x.save();
            x.goHome();
            check.same("none is at home", x.restore(), 0);
            ringIs(check, x, "9012345678/0000000000");
        });
        tests.put("promise 14: restore, NOT_POSSIBLE before the first save", check -> {
            DanceFigures x = with(RING, 1, 0);
            check.same("restore", x.restore(), NOT_POSSIBLE);
            check.same("the move stays", x.figure(0, 0), 1);
            x.save();
            check.same("saved", x.restore(), 10);
        });
        tests.put("promise 14: restore, 10 if all are at home, 0 if none is", check -> {
            DanceFigures x = with(RING, 1, 0);
            x.save();
            x.dance(0, 1, false);
            check.same("all", x.restore(), 10);
            x.dance(0, 1, false);
            x.save();
            x.goHome();
            check.same("none", x.restore(), 0);
        });
        tests.put("promise 14: restore, at their places, but with the face 0 alone", check -> {
            DanceFigures x = with(TURN, 0, 1, TURN, 9, 3, TURN, 5, 2);
            x.dance(0, 1, false);
            x.save();
            x.goHome();
            check.same("seven", x.restore(), 7);
        });
        tests.put("promise 14: restore leaves the snapshot, again and again", check -> {
            DanceFigures x = with(RING, 1, 0);
            x.save();
            for (int i = 0; i < 3; i++) {
                x.dance(0, 1 + i, false);
                x.add(0, TURN, 0, 1);
                check.same("restore", x.restore(), 10);
                check.same("one move", x.figure(0, 0), 1);
                ringIs(check, x, HOME);
            }
        });
    }

    // ---- count and total

    private static void countIs(Check check, DanceFigures x, int what, int due) {
        check.same("count(" + what + ")", x.count(what), due);
    }

    private static void counts(Tests tests) {
        tests.put("promise 22: count, what is 0 to 5", check -> {
            DanceFigures x = new DanceFigures();
            x.append('A');
            check.same("the first number", x.count(0), 10);
            check.same("the last number", x.count(5), 1);
            for (int what : new int[] {-1, 6, LOWEST, HIGHEST}) {
                check.same("what " + what, x.count(what), BAD_VALUE);
            }
        });
        tests.put("promise 22: count, dancers at home and at their places, 10 and 0", check -> {
            DanceFigures x = with(RING, 1, 0);
            countIs(check, x, 0, 10);
            countIs(check, x, 1, 10);
            x.dance(0, 1, false);
            countIs(check, x, 0, 0);
            countIs(check, x, 1, 0);
        });
        tests.put("promise 22: count, at their places with other faces than 0", check -> {
            DanceFigures x = new DanceFigures();
            for (int place = 0; place < 10; place++) {
                x.add(0, TURN, place, 1 + place % 3);
            }
            x.dance(0, 1, false);
            countIs(check, x, 0, 0);
            countIs(check, x, 1, 10);
        });
        tests.put("promise 22: count, pairs from 0 to 5", check -> {
            DanceFigures x = new DanceFigures();
            countIs(check, x, 2, 0);
            for (int dancer = 0; dancer < 10; dancer += 2) {
                x.hold(dancer, dancer + 1);
                countIs(check, x, 2, dancer / 2 + 1);
            }
            x.release(0);
            countIs(check, x, 2, 4);
        });
        tests.put("promise 22: count, figures with moves from 0 to 8", check -> {
            DanceFigures x = new DanceFigures();
            countIs(check, x, 3, 0);
            for (int figure = 7; figure > 0; figure--) {
                x.add(figure, CALL, 0, 0);
                countIs(check, x, 3, 8 - figure);
            }
            putOften(x, 2, 0, TURN, 0, 1);
            countIs(check, x, 3, 8);
            x.drop(0);
            countIs(check, x, 3, 8);
            x.drop(0);
            countIs(check, x, 3, 7);
        });
        tests.put("promise 22: count, states from 0 to 5", check -> {
            DanceFigures x = new DanceFigures();
            for (int due : new int[] {0, 1, 2, 3, 4, 5, 5}) {
                countIs(check, x, 4, due);
                x.goHome();
            }
        });
        tests.put("promise 22: count, the length of the text from 0 to 80", check -> {
            DanceFigures x = new DanceFigures();
            countIs(check, x, 5, 0);
            for (int i = 0; i < 81; i++) {
                x.append(' ');
            }
            countIs(check, x, 5, 80);
        });
    }

    private static void totals(Tests tests) {
        tests.put("promise 23: total, what is 0 to 2", check -> {
            DanceFigures x = new DanceFigures();
            for (int what = 0; what <= 2; what++) {
                check.same("at first, what " + what, x.total(what), 0);
            }
            for (int what : new int[] {-1, 3, LOWEST, HIGHEST}) {
                check.same("what " + what, x.total(what), BAD_VALUE);
            }
        });
        tests.put("promise 23: total, a call counts once, whatever its times", check -> {
            DanceFigures x = with(TURN, 0, 1);
            x.dance(0, 1, false);
            check.same("once", x.total(0), 1);
            x.dance(0, 9, true);
            check.same("nine times", x.total(0), 2);
            write(x, "A9 A");
            x.run();
            check.same("in a script", x.total(0), 4);
            check.same("but each step counts", x.total(1), 20);
        });
        tests.put("promise 23: total, refused calls are not counted", check -> {
            DanceFigures x = with(TURN, 5, 1, SWAP, 0, 1);
            x.hold(1, 2);
            x.dance(0, 1, false);
            write(x, "A");
            x.run();
            x.dance(0, 0, false);
            check.same("calls", x.total(0), 0);
            check.same("steps", x.total(1), 0);
        });
        tests.put("promise 23: total, holds that release releases are not counted", check -> {
            DanceFigures x = with(SWAP, 1, 5);
            x.dance(0, 1, false);
            x.hold(0, 5);
            x.release(0);
            x.goHome();
            check.same("none by goHome", x.total(2), 0);
            x.dance(0, 1, false);
            x.hold(0, 5);
            x.goHome();
            check.same("one by goHome", x.total(2), 1);
        });
        tests.put("promise 23: total, a pair that goHome releases counts once", check -> {
            DanceFigures x = with(SWAP, 1, 5, SWAP, 2, 8);
            x.dance(0, 1, false);
            x.hold(0, 5);
            x.hold(8, 3);
            x.goHome();
            check.same("two pairs", x.total(2), 2);
            x.goHome();
            check.same("still two", x.total(2), 2);
        });
    }
}
