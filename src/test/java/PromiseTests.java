/** For each promise of the document: ordinary inputs, the edges that it names, wrong inputs. */
final class PromiseTests extends Basics {
    private PromiseTests() {
    }

    static void addTo(Tests tests) {
        tests.put("promise 1: a new object", PromiseTests::newObject);
        tests.put("promise 2: add", PromiseTests::add);
        tests.put("promise 2: ranges of a and b", PromiseTests::addRanges);
        tests.put("promise 2: room", PromiseTests::addRoom);
        tests.put("promise 3: drop", PromiseTests::drop);
        tests.put("promise 4: hold", PromiseTests::hold);
        tests.put("promise 5: release", PromiseTests::release);
        tests.put("promise 6: dance, each kind of step", PromiseTests::danceSteps);
        tests.put("promise 6: dance backwards", PromiseTests::danceBackwards);
        tests.put("promise 6: dance and holds", PromiseTests::danceAndHolds);
        tests.put("promise 6: dance, wrong inputs and empty figures", PromiseTests::danceEdges);
        tests.put("promise 7: goHome", PromiseTests::goHome);
        tests.put("promise 8: append", PromiseTests::append);
        tests.put("promise 9: clearText", PromiseTests::clearText);
        tests.put("promise 10: fault", PromiseTests::fault);
        tests.put("promise 11: run", PromiseTests::run);
        tests.put("promise 11: run stops at a blocked call", PromiseTests::runBlocked);
        tests.put("promise 12: undo", PromiseTests::undo);
        tests.put("promise 12: what is recorded", PromiseTests::recorded);
        tests.put("promise 13: save", PromiseTests::save);
        tests.put("promise 14: restore", PromiseTests::restore);
        tests.put("promise 15: dancer", PromiseTests::dancer);
        tests.put("promise 16: at", PromiseTests::at);
        tests.put("promise 17: move", PromiseTests::move);
        tests.put("promise 18: figure", PromiseTests::figure);
        tests.put("promise 18: order", PromiseTests::order);
        tests.put("promise 19: effect", PromiseTests::effect);
        tests.put("promise 20: alike", PromiseTests::alike);
        tests.put("promise 21: commute", PromiseTests::commute);
        tests.put("promise 22: count", PromiseTests::count);
        tests.put("promise 23: total", PromiseTests::total);
        tests.put("promise 24: blockedAt", PromiseTests::blockedAt);
        tests.put("promise 25: homeIn", PromiseTests::homeIn);
        tests.put("promise 26: wayHome", PromiseTests::wayHome);
        tests.put("promise 27: distance", PromiseTests::distance);
    }

    private static void newObject(Check check) {
        DanceFigures x = new DanceFigures();
        ringIs(check, x, "0123456789/0000000000");
        for (int d = 0; d < 10; d++) {
            check.same("place of " + d, x.dancer(d, 0), d);
            check.same("partner of " + d, x.dancer(d, 2), NONE);
        }
        for (int f = 0; f < 8; f++) {
            check.same("moves of " + f, x.figure(f, 0), 0);
            check.same("steps of " + f, x.figure(f, 1), 0);
        }
        int[] counts = {10, 10, 0, 0, 0, 0};
        for (int what = 0; what < 6; what++) {
            check.same("count(" + what + ")", x.count(what), counts[what]);
        }
        for (int what = 0; what < 3; what++) {
            check.same("total(" + what + ")", x.total(what), 0);
        }
        check.same("fault()", x.fault(), 0);
        check.same("undo()", x.undo(), NONE);
        check.same("restore()", x.restore(), NOT_POSSIBLE);
        DanceFigures y = new DanceFigures();
        y.add(0, RING, 1, 0);
        y.dance(0, 1, false);
        ringIs(check, x, "0123456789/0000000000");
        check.same("moves of another object", x.figure(0, 0), 0);
    }

    private static void add(Check check) {
        DanceFigures x = new DanceFigures();
        check.same("first", x.add(7, SWAP, 0, 9), 1);
        check.same("second", x.add(7, TURN, 9, 3), 2);
        check.same("third", x.add(7, RING, 9, 0), 3);
        check.same("fourth", x.add(7, REVERSE, 8, 9), 4);
        check.same("fifth", x.add(7, CALL, 6, 0), 5);
        check.same("other figure", x.add(6, CALL, 0, 0), 1);
        check.same("the end is where moves are added", x.move(7, 4, 0), CALL);
        check.same("steps before", x.figure(7, 1), 4);
        x.add(0, SWAP, 3, 4);
        check.same("callers change with what they call", x.figure(7, 1), 5);
        check.same("and their effect too", x.figure(6, 3), 2);
        for (int figure : NO_FIGURES) {
            check.same("add to " + figure, x.add(figure, SWAP, 0, 1), NO_SUCH);
            check.same("no figure before bad value", x.add(figure, 9, 0, 1), NO_SUCH);
        }
        check.same("errors record nothing: states", x.count(4), 5);
        check.same("undo of add", x.undo(), 4);
        check.same("steps after undo", x.figure(7, 1), 4);
    }

    private static void addRanges(Check check) {
        int[] tried = {Integer.MIN_VALUE, -2, -1, 0, 1, 2, 3, 4, 5, 8, 9, 10, 11, Integer.MAX_VALUE};
        for (int kind = -1; kind <= 5; kind++) {
            for (int a : tried) {
                for (int b : tried) {
                    DanceFigures x = new DanceFigures();
                    int due = isMove(4, kind, a, b) ? 1 : BAD_VALUE;
                    check.same("add(4, " + kind + ", " + a + ", " + b + ")", x.add(4, kind, a, b), due);
                    check.same("moves after it", x.figure(4, 0), due == 1 ? 1 : 0);
                    check.same("states after it", x.count(4), due == 1 ? 1 : 0);
                }
            }
        }
        DanceFigures x = new DanceFigures();
        check.same("call of itself", x.add(0, CALL, 0, 0), BAD_VALUE);
        check.same("call of a higher one", x.add(3, CALL, 4, 0), BAD_VALUE);
        check.same("call of no figure", x.add(7, CALL, 8, 0), BAD_VALUE);
        check.same("call of the highest one below", x.add(7, CALL, 6, 0), 1);
    }

    private static boolean isMove(int figure, int kind, int a, int b) {
        boolean isPair = a >= 0 && a <= 8 && b <= 9 && b > a;
        return kind == SWAP && isPair
                || kind == TURN && a >= 0 && a <= 9 && b >= 1 && b <= 3
                || kind == RING && a >= 1 && a <= 9 && b == 0
                || kind == REVERSE && isPair
                || kind == CALL && a >= 0 && a < figure && b == 0;
    }

    private static void addRoom(Check check) {
        DanceFigures x = new DanceFigures();
        for (int i = 1; i <= 10; i++) {
            check.same("move " + i, x.add(0, TURN, 0, 1), i);
        }
        check.same("an eleventh move", x.add(0, TURN, 0, 1), TOO_MANY);
        check.same("bad value before too many", x.add(0, TURN, 0, 0), BAD_VALUE);
        x.add(1, CALL, 0, 0);
        x.add(1, CALL, 0, 0);
        for (int i = 1; i <= 6; i++) {
            check.same("20 steps more, " + i, x.add(2, CALL, 1, 0), i);
        }
        check.same("120 steps", x.figure(2, 1), 120);
        check.same("a step too many", x.add(2, TURN, 0, 1), TOO_MANY);
        check.same("a call too many", x.add(2, CALL, 0, 0), TOO_MANY);
        check.same("a call without steps is not too many", x.add(4, CALL, 3, 0), 1);
        check.same("a step in a figure that is called", x.add(1, TURN, 0, 1), TOO_MANY);
        check.same("a call without steps", x.add(5, CALL, 2, 0), 1);
        check.same("a caller of a caller is full too", x.add(1, SWAP, 0, 1), TOO_MANY);
        x.drop(2);
        check.same("100 steps", x.figure(5, 1), 100);
        check.same("5 steps more", x.add(1, TURN, 0, 1), 3);
        check.same("105 steps", x.figure(5, 1), 105);
        callersOfCallers(check);
        millionsOfCalls(check);
        oneCallEach(check);
    }

    private static void callersOfCallers(Check check) {
        DanceFigures x = new DanceFigures();
        for (int figure = 1; figure <= 2; figure++) {
            for (int i = 0; i < 10; i++) {
                x.add(figure, CALL, figure - 1, 0);
            }
        }
        x.add(3, CALL, 2, 0);
        check.same("100 steps by one", x.add(0, SWAP, 0, 1), 1);
        check.same("so many now", x.figure(3, 1), 100);
        check.same("200 would be too many", x.add(0, SWAP, 0, 1), TOO_MANY);
        check.same("nothing has changed", x.figure(3, 1), 100);
        for (int i = 1; i <= 9; i++) {
            x.add(3, SWAP, 0, 1);
        }
        check.same("109 steps", x.figure(3, 1), 109);
        x.add(4, CALL, 3, 0);
        check.same("119 steps", x.add(1, SWAP, 0, 1), TOO_MANY);
        x.drop(1);
        check.same("a step for a call", x.add(1, SWAP, 0, 1), 10);
        check.same("still 109 steps", x.figure(4, 1), 109);
        check.same("10 by figure 2", x.add(2, SWAP, 0, 1), TOO_MANY);
    }

    /** The figure 0 stays empty, and each call is the first move of its figure. */
    private static void oneCallEach(Check check) {
        DanceFigures x = new DanceFigures();
        for (int i = 0; i < 10; i++) {
            x.add(1, SWAP, 0, 1);
        }
        x.add(2, CALL, 1, 0);
        for (int i = 0; i < 9; i++) {
            x.add(2, CALL, 1, 0);
            x.add(3, CALL, 2, 0);
            x.drop(3);
        }
        check.same("100 steps", x.figure(2, 1), 100);
        x.add(3, CALL, 2, 0);
        check.same("10 more", x.add(3, CALL, 1, 0), 2);
        check.same("10 more again", x.add(3, CALL, 1, 0), 3);
        check.same("10 more are too many", x.add(3, CALL, 1, 0), TOO_MANY);
        x.drop(2);
        check.same("now they are not", x.add(3, CALL, 1, 0), 4);
        check.same("but what is called first may not grow", x.add(2, SWAP, 0, 1), TOO_MANY);
    }

    /** Calls of figures without steps may stand ten deep in each of seven figures. */
    private static void millionsOfCalls(Check check) {
        DanceFigures x = new DanceFigures();
        for (int figure = 1; figure < 8; figure++) {
            for (int i = 1; i <= 10; i++) {
                check.same("empty call", x.add(figure, CALL, figure - 1, 0), i);
            }
        }
        check.same("no steps", x.figure(7, 1), 0);
        check.same("danced in no time", x.dance(7, 9, true), 0);
        check.same("ten million steps", x.add(0, SWAP, 0, 1), TOO_MANY);
        check.same("figures that are called", x.figure(7, 6), 127);
        check.same("callers", x.figure(0, 7), 254);
    }

    private static void drop(Check check) {
        DanceFigures x = new DanceFigures();
        for (int figure : NO_FIGURES) {
            check.same("drop(" + figure + ")", x.drop(figure), NO_SUCH);
        }
        check.same("drop of nothing", x.drop(0), NOT_POSSIBLE);
        x.add(0, SWAP, 0, 1);
        x.add(0, TURN, 2, 3);
        x.add(1, CALL, 0, 0);
        check.same("last one goes", x.drop(0), 1);
        check.same("first one stays", x.move(0, 0, 0), SWAP);
        check.same("there is no second one", x.move(0, 1, 0), NO_SUCH);
        check.same("callers change too", x.figure(1, 1), 1);
        check.same("and their effect", x.effect(1, 2, true), 0);
        check.same("the other goes", x.drop(0), 0);
        check.same("none is left", x.drop(0), NOT_POSSIBLE);
        x.add(1, TURN, 3, 1);
        check.same("the last move of the figure that is named", x.drop(1), 1);
        check.same("a call goes", x.drop(1), 0);
        check.same("it is called no more", x.figure(0, 7), 0);
        check.same("errors record nothing", x.count(4), 5);
        check.same("undo", x.undo(), 4);
        check.same("the call is back", x.figure(0, 7), 2);
    }

    private static void hold(Check check) {
        DanceFigures x = new DanceFigures();
        for (int dancer : NO_PLACES) {
            check.same("hold(" + dancer + ", 0)", x.hold(dancer, 0), NO_SUCH);
            check.same("hold(0, " + dancer + ")", x.hold(0, dancer), NO_SUCH);
            check.same("no dancer before the same", x.hold(dancer, dancer), NO_SUCH);
        }
        check.same("the same", x.hold(4, 4), BAD_VALUE);
        check.same("too far", x.hold(4, 6), NOT_POSSIBLE);
        check.same("opposite", x.hold(0, 5), NOT_POSSIBLE);
        check.same("8 apart", x.hold(0, 8), NOT_POSSIBLE);
        check.same("0 and 9", x.hold(9, 0), 1);
        check.same("one holds", x.hold(0, 1), NOT_POSSIBLE);
        check.same("the other holds", x.hold(8, 9), NOT_POSSIBLE);
        check.same("both hold each other", x.hold(9, 0), NOT_POSSIBLE);
        check.same("the same before holds", x.hold(9, 9), BAD_VALUE);
        check.same("another pair", x.hold(1, 2), 2);
        check.same("third", x.hold(4, 3), 3);
        check.same("fourth", x.hold(5, 6), 4);
        check.same("fifth", x.hold(8, 7), 5);
        check.same("who is held", x.dancer(7, 2), 8);
        check.same("who is held by him", x.dancer(8, 2), 7);
        check.same("errors record nothing", x.count(4), 5);
        DanceFigures y = new DanceFigures();
        y.add(0, SWAP, 1, 5);
        y.dance(0, 1, false);
        check.same("it is the places that count", y.hold(0, 1), NOT_POSSIBLE);
        check.same("neighbors by their places", y.hold(1, 6), 1);
    }

    private static void release(Check check) {
        DanceFigures x = new DanceFigures();
        for (int dancer : NO_PLACES) {
            check.same("release(" + dancer + ")", x.release(dancer), NO_SUCH);
        }
        check.same("no hold", x.release(3), NOT_POSSIBLE);
        x.hold(3, 4);
        x.hold(6, 5);
        check.same("the one who was held", x.release(4), 3);
        check.same("none now", x.dancer(4, 2), NONE);
        check.same("nor by the other", x.dancer(3, 2), NONE);
        check.same("not twice", x.release(3), NOT_POSSIBLE);
        check.same("the other pair is left", x.count(2), 1);
        check.same("by the first one", x.release(6), 5);
        check.same("errors record nothing", x.count(4), 4);
        x.undo();
        check.same("undo of release", x.dancer(5, 2), 6);
    }

    private static void danceSteps(Check check) {
        DanceFigures x = new DanceFigures();
        x.add(0, SWAP, 2, 9);
        x.add(1, TURN, 9, 3);
        x.add(2, RING, 3, 0);
        x.add(3, REVERSE, 1, 4);
        x.add(4, REVERSE, 0, 4);
        check.same("swap", x.dance(0, 1, false), 1);
        ringIs(check, x, "0193456782/0000000000");
        check.same("turn", x.dance(1, 3, false), 3);
        ringIs(check, x, "0193456782/0000000001");
        check.same("ring", x.dance(2, 1, false), 1);
        ringIs(check, x, "7820193456/0010000000");
        check.same("reverse", x.dance(3, 1, false), 1);
        ringIs(check, x, "7102893456/0223200000");
        check.same("reverse with one in the middle", x.dance(4, 1, false), 1);
        ringIs(check, x, "8201793456/0100200000");
        x.add(5, CALL, 0, 0);
        x.add(5, CALL, 2, 0);
        x.add(5, TURN, 0, 2);
        check.same("calls in their order", x.dance(5, 1, false), 3);
        ringIs(check, x, "4508261793/2000100200");
        check.same("all steps", x.total(1), 10);
        check.same("six times three", x.dance(5, 6, false), 18);
    }

    private static void danceBackwards(Check check) {
        DanceFigures x = new DanceFigures();
        x.add(0, SWAP, 2, 9);
        x.add(0, TURN, 9, 3);
        x.add(0, RING, 3, 0);
        x.add(0, REVERSE, 1, 4);
        x.add(1, TURN, 0, 1);
        x.add(1, CALL, 0, 0);
        x.add(1, SWAP, 0, 1);
        x.add(2, TURN, 4, 1);
        x.add(3, RING, 3, 0);
        check.same("forwards", x.dance(1, 4, false), 24);
        check.same("backwards", x.dance(1, 3, true), 18);
        check.same("and once more", x.dance(1, 1, true), 6);
        ringIs(check, x, "0123456789/0000000000");
        check.same("turn backwards", x.dance(2, 1, true), 1);
        ringIs(check, x, "0123456789/0000300000");
        check.same("ring backwards", x.dance(3, 1, true), 1);
        ringIs(check, x, "3456789012/0300000000");
    }

    private static void danceAndHolds(Check check) {
        DanceFigures x = new DanceFigures();
        x.hold(0, 1);
        x.add(0, SWAP, 0, 1);
        x.add(0, RING, 9, 0);
        x.add(0, TURN, 3, 1);
        x.add(1, RING, 1, 0);
        x.add(1, CALL, 0, 0);
        x.add(1, SWAP, 0, 1);
        check.same("a pair may change places, and pass the end of the ring", x.dance(0, 1, false), 3);
        ringIs(check, x, "0234567891/0001000000");
        check.same("the fifth step parts them", x.dance(1, 1, false), -104);
        ringIs(check, x, "0234567891/0001000000");
        check.same("blocked dances are not counted", x.total(0), 1);
        check.same("nor their steps", x.total(1), 3);
        check.same("errors record nothing", x.count(4), 5);
        x.undo();
        check.same("but dances do", x.total(0), 0);
        ringIs(check, x, "0123456789/0000000000");
        severalTimes(check);
        wholeSteps(check);
    }

    private static void severalTimes(Check check) {
        DanceFigures x = new DanceFigures();
        x.hold(2, 3);
        x.add(0, RING, 1, 0);
        x.add(0, SWAP, 4, 5);
        x.add(0, TURN, 0, 1);
        check.same("in the first time", x.dance(0, 9, false), -101);
        check.same("backwards in the eighth time", x.dance(0, 9, true), -122);
        check.same("eight times are too many", x.dance(0, 8, true), -122);
        ringIs(check, x, "0123456789/0000000000");
        x.add(1, RING, 1, 0);
        x.add(1, SWAP, 0, 9);
        check.same("the steps of all times are counted", x.dance(1, 9, false), -111);
        check.same("less often it can be done", x.dance(1, 5, false), 10);
        x.undo();
        check.same("seven times backwards", x.dance(0, 7, true), 21);
    }

    /** A step is looked at as a whole: what holds in between does not matter. */
    private static void wholeSteps(Check check) {
        DanceFigures x = new DanceFigures();
        x.hold(4, 5);
        x.add(0, REVERSE, 3, 6);
        x.add(1, REVERSE, 4, 8);
        x.add(2, REVERSE, 5, 6);
        x.add(3, REVERSE, 0, 9);
        x.add(4, REVERSE, 0, 4);
        check.same("both are in it", x.dance(0, 1, false), 1);
        check.same("both are in it still", x.dance(1, 1, false), 1);
        check.same("places now", x.dancer(4, 0) * 10 + x.dancer(5, 0), 78);
        check.same("all are in it", x.dance(3, 1, false), 1);
        check.same("none of them", x.dance(2, 1, false), 1);
        check.same("both again", x.dance(4, 1, false), 1);
        DanceFigures y = new DanceFigures();
        y.hold(4, 5);
        y.add(0, REVERSE, 5, 6);
        y.add(1, REVERSE, 0, 4);
        y.add(2, REVERSE, 4, 9);
        check.same("one is in it", y.dance(0, 1, false), -100);
        check.same("the other is in it", y.dance(1, 1, false), -100);
        check.same("both are in it at its edge", y.dance(2, 1, false), 1);
        DanceFigures z = new DanceFigures();
        z.hold(0, 9);
        z.add(0, REVERSE, 0, 9);
        z.add(1, REVERSE, 0, 7);
        check.same("across the end of the ring", z.dance(0, 1, false), 1);
        check.same("one of them alone", z.dance(1, 1, false), -100);
    }

    private static void danceEdges(Check check) {
        DanceFigures x = new DanceFigures();
        x.add(0, SWAP, 0, 1);
        x.hold(1, 2);
        for (int figure : NO_FIGURES) {
            check.same("dance(" + figure + ")", x.dance(figure, 1, false), NO_SUCH);
            check.same("no figure before bad value", x.dance(figure, 0, true), NO_SUCH);
        }
        for (int times : new int[] {0, -1, 10, Integer.MIN_VALUE, Integer.MAX_VALUE}) {
            check.same("dance " + times + " times", x.dance(0, times, false), BAD_VALUE);
        }
        check.same("blocked at once", x.dance(0, 1, true), -100);
        check.same("errors record nothing", x.count(4), 2);
        check.same("without moves", x.dance(5, 9, true), 0);
        check.same("it is recorded", x.count(4), 3);
        check.same("it is counted", x.total(0), 1);
    }

    private static void goHome(Check check) {
        DanceFigures x = new DanceFigures();
        check.same("all are at home", x.goHome(), 0);
        check.same("it is recorded even so", x.count(4), 1);
        x.add(0, SWAP, 1, 5);
        x.add(0, TURN, 7, 2);
        x.dance(0, 1, false);
        x.hold(0, 5);
        x.hold(3, 4);
        check.same("two by their place, one by its face", x.goHome(), 3);
        ringIs(check, x, "0123456789/0000000000");
        check.same("apart: released", x.dancer(5, 2), NONE);
        check.same("and the other", x.dancer(0, 2), NONE);
        check.same("neighbors: held", x.dancer(4, 2), 3);
        check.same("one is counted", x.total(2), 1);
        check.same("one is left", x.count(2), 1);
        x.undo();
        check.same("undone: held again", x.dancer(5, 2), 0);
        check.same("undone: not counted", x.total(2), 0);
        check.same("undone: not at home", x.count(0), 7);
        x.goHome();
        x.add(1, RING, 5, 0);
        x.dance(1, 1, false);
        check.same("all ten", x.goHome(), 10);
        check.same("neighbors stay neighbors", x.count(2), 1);
        nineAndZero(check);
    }

    private static void nineAndZero(Check check) {
        DanceFigures x = new DanceFigures();
        x.add(0, SWAP, 1, 4);
        x.add(0, SWAP, 2, 6);
        x.dance(0, 1, false);
        x.hold(0, 9);
        x.hold(1, 5);
        x.hold(4, 6);
        x.hold(7, 8);
        check.same("pairs", x.count(2), 4);
        check.same("four come home", x.goHome(), 4);
        check.same("two are released", x.total(2), 2);
        check.same("0 and 9 are neighbors", x.dancer(9, 2), 0);
        check.same("no more to release", x.goHome(), 0);
        check.same("still two", x.total(2), 2);
    }

    private static void append(Check check) {
        DanceFigures x = new DanceFigures();
        for (int character : new int[] {31, 127, 0, -1, 65 + 256, Integer.MIN_VALUE, Integer.MAX_VALUE}) {
            check.same("append(" + character + ")", x.append(character), BAD_VALUE);
        }
        for (int i = 1; i <= 80; i++) {
            check.same("append", x.append(i % 2 == 0 ? 32 : 126), i);
        }
        check.same("the 81st", x.append(65), TOO_MANY);
        check.same("bad value before too many", x.append(127), BAD_VALUE);
        check.same("length", x.count(5), 80);
        check.same("it is no action", x.count(4), 0);
        check.same("there is nothing to undo", x.undo(), NONE);
        check.same("the text stays", x.count(5), 80);
    }

    private static void clearText(Check check) {
        DanceFigures x = new DanceFigures();
        check.same("nothing", x.clearText(), 0);
        write(x, "A B2 C'");
        check.same("seven", x.clearText(), 7);
        check.same("empty", x.count(5), 0);
        check.same("again", x.clearText(), 0);
        check.same("the text is new", x.append('B'), 1);
        check.same("and complete", x.fault(), NONE);
        check.same("it is no action", x.count(4), 0);
    }

    private static void faultIs(Check check, String text, int due) {
        DanceFigures x = new DanceFigures();
        write(x, text);
        check.same("fault of \"" + text + "\"", x.fault(), due);
        check.same("run of \"" + text + "\"", x.run() < 0 ? 1 : 0, due == NONE ? 0 : 1);
        check.same("length of \"" + text + "\"", x.count(5), text.length());
    }

    private static void fault(Check check) {
        for (String text : new String[] {"A", "H", "A2", "H9", "A'", "C5'", "A B", "A2 A2", "A' H9'",
            "A B C D E F G H"}) {
            faultIs(check, text, NONE);
        }
        for (String text : new String[] {"", "A ", "A2 ", "A' ", "A9' B2' "}) {
            faultIs(check, text, text.length());
        }
        for (String text : new String[] {" ", "I", "@", "a", "2", "'", "\"", "~"}) {
            faultIs(check, text, 0);
            faultIs(check, "A " + text, 2);
        }
        for (String text : new String[] {"A1", "A0", "A:", "AA", "AB'", "Aa", "A&"}) {
            faultIs(check, text, 1);
            faultIs(check, "B3' " + text + " C", 5);
        }
        for (String text : new String[] {"A  B", "A22", "A'2", "A''", "A2A", "A'A", "A2*"}) {
            faultIs(check, text, 2);
        }
        faultIs(check, "A2''", 3);
        faultIs(check, "A2'2", 3);
        faultIs(check, "A2'A", 3);
        faultIs(check, "A!!", 1);
        StringBuilder full = new StringBuilder();
        for (int i = 0; i < 40; i++) {
            full.append("A ");
        }
        faultIs(check, full.toString(), 80);
        full.setCharAt(79, '\'');
        faultIs(check, full.toString(), NONE);
        full.setCharAt(79, 'B');
        faultIs(check, full.toString(), 79);
    }

    private static void run(Check check) {
        DanceFigures x = new DanceFigures();
        x.add(0, TURN, 0, 1);
        x.add(1, RING, 1, 0);
        x.add(7, SWAP, 2, 3);
        write(x, "A3 B2' H");
        check.same("three calls", x.run(), 3);
        ringIs(check, x, "2354678901/0000000030");
        check.same("calls danced", x.total(0), 3);
        check.same("steps made", x.total(1), 6);
        check.same("one action", x.count(4), 4);
        check.same("the text stays", x.count(5), 8);
        check.same("once more", x.run(), 3);
        check.same("undo of the whole run", x.undo(), 4);
        ringIs(check, x, "2354678901/0000000030");
        check.same("totals too", x.total(0), 3);
        write(x, "A3 B2' ");
        check.same("not complete", x.run(), -107);
        write(x, "A3 BB");
        check.same("with a fault", x.run(), -104);
        write(x, "");
        check.same("empty", x.run(), -100);
        check.same("errors record nothing", x.count(4), 4);
        check.same("and dance nothing", x.total(0), 3);
        write(x, "A9 C");
        check.same("a figure without moves", x.run(), 2);
        check.same("counts as a call", x.total(0), 5);
        check.same("nine steps", x.total(1), 15);
        timesAndMarksEnd(check);
    }

    /** What one call says of its times and direction does not go over to the next one. */
    private static void timesAndMarksEnd(Check check) {
        DanceFigures x = new DanceFigures();
        x.add(0, RING, 1, 0);
        write(x, "A4' A");
        check.same("two calls", x.run(), 2);
        check.same("four back, one forwards", x.at(0), 3);
        check.same("steps", x.total(1), 5);
    }

    private static void runBlocked(Check check) {
        DanceFigures x = new DanceFigures();
        x.hold(0, 1);
        x.add(0, RING, 1, 0);
        x.add(1, SWAP, 3, 4);
        x.add(2, RING, 1, 0);
        x.add(2, CALL, 1, 0);
        x.add(3, SWAP, 1, 2);
        write(x, "A3 A' B A");
        check.same("two calls before the blocked one", x.run(), 2);
        check.same("they were carried out", x.at(2), 0);
        check.same("calls danced", x.total(0), 2);
        check.same("steps made", x.total(1), 4);
        check.same("it is one action", x.undo(), 4);
        check.same("undone as a whole", x.at(0), 0);
        write(x, "A2' A2 C2 A");
        check.same("all of a call or nothing", x.run(), 2);
        check.same("nothing of the call", x.at(0), 0);
        check.same("four steps", x.total(1), 4);
        x.undo();
        write(x, "D A");
        check.same("no call is carried out", x.run(), 0);
        check.same("this is one action even so", x.count(4), 5);
        check.same("nothing was danced", x.total(0), 0);
        check.same("nor recorded twice", x.undo(), 4);
        check.same("the figures are as they were", x.figure(3, 0), 1);
    }

    private static void undo(Check check) {
        DanceFigures x = new DanceFigures();
        check.same("nothing to undo", x.undo(), NONE);
        for (int i = 1; i <= 7; i++) {
            x.add(0, TURN, 0, 1);
        }
        check.same("five states", x.count(4), 5);
        for (int left = 4; left >= 0; left--) {
            check.same("states left", x.undo(), left);
            check.same("moves", x.figure(0, 0), 2 + left);
            check.same("steps", x.figure(0, 1), 2 + left);
            check.same("effect", x.effect(0, 0, true), (2 + left) % 4);
        }
        check.same("the oldest ones are gone", x.undo(), NONE);
        check.same("two moves", x.figure(0, 0), 2);
        x.add(0, SWAP, 0, 1);
        check.same("it goes on", x.undo(), 0);
        x.drop(0);
        x.add(0, RING, 7, 0);
        x.undo();
        x.undo();
        check.same("a move that was replaced is back", x.move(0, 1, 0), TURN);
        check.same("and what it does", x.effect(0, 0, true), 2);
        x.hold(4, 5);
        x.dance(0, 1, false);
        write(x, "A2");
        x.save();
        x.run();
        check.same("undo of run", x.undo(), 2);
        check.same("the text stays", x.count(5), 2);
        x.undo();
        x.undo();
        check.same("no hold", x.count(2), 0);
        check.same("nothing danced", x.total(0), 0);
        check.same("the snapshot stays", x.restore(), 9);
        check.same("with its hold", x.count(2), 1);
        check.same("and its totals", x.total(1), 2);
    }

    private static void recorded(Check check) {
        DanceFigures x = new DanceFigures();
        x.add(0, TURN, 0, 1);
        x.hold(0, 1);
        x.release(0);
        check.same("add, hold, release", x.count(4), 3);
        x.save();
        x.append('A');
        x.fault();
        x.clearText();
        x.blockedAt(0, false);
        x.homeIn(0);
        x.wayHome(0);
        x.distance();
        check.same("save, text and queries record nothing", x.count(4), 3);
        x.restore();
        check.same("restore is recorded", x.count(4), 4);
        x.undo();
        x.undo();
        check.same("undone", x.count(4), 2);
        x.goHome();
        x.drop(0);
        x.dance(0, 1, true);
        check.same("goHome, drop, dance", x.count(4), 5);
        x.undo();
        check.same("undo of dance", x.figure(0, 0), 0);
        x.undo();
        check.same("undo of drop", x.figure(0, 0), 1);
        check.same("undo of drop, steps", x.figure(0, 1), 1);
        x.undo();
        check.same("undo of goHome", x.count(2), 1);
        x.undo();
        check.same("undo of hold", x.count(2), 0);
        check.same("undo of add", x.undo(), 0);
        check.same("no moves", x.count(3), 0);
    }

    private static void save(Check check) {
        DanceFigures x = new DanceFigures();
        check.same("all at home", x.save(), 10);
        x.add(0, SWAP, 0, 1);
        x.add(0, TURN, 5, 1);
        x.dance(0, 1, false);
        check.same("three are not", x.save(), 7);
        check.same("it is no action", x.count(4), 3);
        x.dance(0, 1, true);
        x.drop(0);
        check.same("the later one counts", x.restore(), 7);
        check.same("with its figures", x.figure(0, 1), 2);
        x.dance(0, 1, true);
        check.same("dances do not change the snapshot", x.restore(), 7);
    }

    private static void restore(Check check) {
        DanceFigures x = new DanceFigures();
        check.same("no snapshot", x.restore(), NOT_POSSIBLE);
        check.same("nothing is recorded", x.count(4), 0);
        x.add(0, RING, 1, 0);
        x.add(1, CALL, 0, 0);
        x.hold(2, 3);
        x.dance(0, 1, false);
        x.save();
        x.dance(1, 2, false);
        x.release(2);
        x.add(0, TURN, 1, 1);
        write(x, "A9");
        x.goHome();
        check.same("none at home", x.restore(), 0);
        ringIs(check, x, "9012345678/0000000000");
        check.same("its hold", x.dancer(3, 2), 2);
        check.same("its figures", x.figure(0, 1), 1);
        check.same("what calls them", x.effect(1, 1, true), 0);
        check.same("its total of calls", x.total(0), 1);
        check.same("its total of steps", x.total(1), 1);
        check.same("the text stays", x.count(5), 2);
        check.same("the history goes on", x.count(4), 5);
        check.same("undo of restore", x.undo(), 4);
        ringIs(check, x, "0123456789/0000000000");
        check.same("undo of restore, steps", x.figure(0, 1), 2);
        check.same("undo of restore, calls", x.total(0), 2);
        check.same("the snapshot remains", x.restore(), 0);
    }

    private static void dancer(Check check) {
        DanceFigures x = new DanceFigures();
        for (int dancer : NO_PLACES) {
            check.same("dancer(" + dancer + ", 0)", x.dancer(dancer, 0), NO_SUCH);
            check.same("no dancer before bad value", x.dancer(dancer, 3), NO_SUCH);
        }
        for (int what : new int[] {-1, 3, Integer.MIN_VALUE, Integer.MAX_VALUE}) {
            check.same("dancer(0, " + what + ")", x.dancer(0, what), BAD_VALUE);
        }
        x.add(0, TURN, 9, 3);
        x.add(0, RING, 2, 0);
        x.dance(0, 1, false);
        x.hold(9, 0);
        check.same("place", x.dancer(9, 0), 1);
        check.same("face goes with the dancer", x.dancer(9, 1), 3);
        check.same("held", x.dancer(9, 2), 0);
        check.same("place of 0", x.dancer(0, 0), 2);
        check.same("face of 0", x.dancer(0, 1), 0);
        check.same("holds 9", x.dancer(0, 2), 9);
        check.same("none", x.dancer(1, 2), NONE);
    }

    private static void at(Check check) {
        DanceFigures x = new DanceFigures();
        for (int place : NO_PLACES) {
            check.same("at(" + place + ")", x.at(place), NO_SUCH);
        }
        x.add(0, RING, 4, 0);
        x.dance(0, 1, false);
        for (int place = 0; place < 10; place++) {
            check.same("at(" + place + ")", x.at(place), (place + 6) % 10);
        }
    }

    private static void move(Check check) {
        DanceFigures x = new DanceFigures();
        x.add(5, SWAP, 3, 9);
        x.add(5, TURN, 0, 3);
        x.add(5, RING, 9, 0);
        x.add(5, REVERSE, 0, 1);
        x.add(5, CALL, 4, 0);
        int[][] due = {{SWAP, 3, 9}, {TURN, 0, 3}, {RING, 9, 0}, {REVERSE, 0, 1}, {CALL, 4, 0}};
        for (int move = 0; move < 5; move++) {
            for (int what = 0; what < 3; what++) {
                check.same("move(5, " + move + ", " + what + ")", x.move(5, move, what), due[move][what]);
            }
        }
        for (int figure : NO_FIGURES) {
            check.same("move of " + figure, x.move(figure, 0, 0), NO_SUCH);
        }
        for (int move : new int[] {-1, 5, 10, Integer.MIN_VALUE, Integer.MAX_VALUE}) {
            check.same("move " + move, x.move(5, move, 0), NO_SUCH);
            check.same("no move before bad value", x.move(5, move, 3), NO_SUCH);
        }
        check.same("of another figure", x.move(4, 0, 0), NO_SUCH);
        for (int what : new int[] {-1, 3, Integer.MIN_VALUE, Integer.MAX_VALUE}) {
            check.same("what " + what, x.move(5, 0, what), BAD_VALUE);
        }
    }

    private static void figureIs(Check check, DanceFigures x, int figure, int... due) {
        for (int what = 0; what < 8; what++) {
            check.same("figure(" + figure + ", " + what + ")", x.figure(figure, what), due[what]);
        }
    }

    private static void figure(Check check) {
        DanceFigures x = new DanceFigures();
        for (int figure : NO_FIGURES) {
            check.same("figure(" + figure + ", 0)", x.figure(figure, 0), NO_SUCH);
            check.same("no figure before bad value", x.figure(figure, 8), NO_SUCH);
        }
        for (int what : new int[] {-1, 8, Integer.MIN_VALUE, Integer.MAX_VALUE}) {
            check.same("figure(0, " + what + ")", x.figure(0, what), BAD_VALUE);
        }
        x.add(0, SWAP, 4, 7);
        x.add(1, TURN, 3, 3);
        x.add(1, TURN, 3, 1);
        x.add(1, TURN, 8, 1);
        x.add(2, RING, 4, 0);
        x.add(3, REVERSE, 1, 5);
        x.add(4, CALL, 2, 0);
        x.add(4, CALL, 0, 0);
        x.add(6, CALL, 4, 0);
        x.add(6, CALL, 1, 0);
        figureIs(check, x, 0, 1, 1, 2, 2, 0, 1, 0, 0b1010000);
        figureIs(check, x, 1, 3, 3, 4, 0, 1, 0, 0, 0b1000000);
        figureIs(check, x, 2, 1, 1, 5, 10, 0, 0, 0, 0b1010000);
        figureIs(check, x, 3, 1, 1, 2, 4, 5, 0, 0, 0);
        figureIs(check, x, 4, 2, 2, 10, 10, 0, 1, 0b101, 0b1000000);
        figureIs(check, x, 5, 0, 0, 1, 0, 0, 0, 0, 0);
        figureIs(check, x, 6, 2, 5, 40, 10, 1, 1, 0b10111, 0);
        x.add(7, CALL, 5, 0);
        check.same("calls of empty figures are calls", x.figure(7, 6), 32);
        check.same("callers of empty figures", x.figure(5, 7), 128);
        DanceFigures y = new DanceFigures();
        y.add(0, RING, 1, 0);
        check.same("a ring of ten is odd", y.figure(0, 5), 1);
        y.add(0, REVERSE, 0, 6);
        check.same("with three exchanges it is even", y.figure(0, 5), 0);
    }

    private static void order(Check check) {
        DanceFigures x = new DanceFigures();
        // places 0 to 4, 5 to 7 and 8, 9 go round, with one quarter each
        x.add(0, SWAP, 0, 1);
        x.add(0, SWAP, 1, 2);
        x.add(0, SWAP, 2, 3);
        x.add(0, SWAP, 3, 4);
        x.add(0, SWAP, 5, 6);
        x.add(0, SWAP, 6, 7);
        x.add(0, SWAP, 8, 9);
        check.same("5, 3, 2", x.figure(0, 2), 30);
        x.add(1, CALL, 0, 0);
        x.add(1, TURN, 0, 1);
        check.same("5 with a quarter", x.figure(1, 2), 60);
        x.drop(1);
        x.add(1, TURN, 8, 1);
        check.same("2 with a quarter", x.figure(1, 2), 120);
        x.drop(1);
        x.add(1, TURN, 8, 2);
        check.same("2 with two quarters", x.figure(1, 2), 60);
        x.add(1, TURN, 5, 3);
        x.add(1, TURN, 0, 1);
        check.same("the highest order of all", x.figure(1, 2), 60);
        x.add(1, TURN, 9, 1);
        check.same("the highest order of all, with all of them", x.figure(1, 2), 120);
        x.add(2, RING, 5, 0);
        check.same("half round", x.figure(2, 2), 2);
        check.same("nothing", x.figure(7, 2), 1);
        x.add(3, TURN, 2, 2);
        check.same("two quarters", x.figure(3, 2), 2);
    }

    private static void effect(Check check) {
        DanceFigures x = new DanceFigures();
        for (int figure : NO_FIGURES) {
            check.same("effect(" + figure + ")", x.effect(figure, 0, false), NO_SUCH);
        }
        for (int place : NO_PLACES) {
            check.same("effect at " + place, x.effect(0, place, true), NO_SUCH);
        }
        x.add(0, TURN, 2, 3);
        x.add(0, RING, 3, 0);
        x.add(0, REVERSE, 5, 8);
        x.add(1, CALL, 0, 0);
        x.add(1, CALL, 0, 0);
        int[] targets = {3, 4, 8, 7, 6, 5, 9, 0, 1, 2};
        int[] quarters = {0, 0, 1, 2, 2, 2, 0, 0, 0, 0};
        for (int p = 0; p < 10; p++) {
            check.same("target of " + p, x.effect(0, p, false), targets[p]);
            check.same("quarters of " + p, x.effect(0, p, true), quarters[p]);
            check.same("twice, target of " + p, x.effect(1, p, false), targets[targets[p]]);
            check.same("twice, quarters of " + p, x.effect(1, p, true),
                    (quarters[p] + quarters[targets[p]]) % 4);
            check.same("nothing, target of " + p, x.effect(7, p, false), p);
            check.same("nothing, quarters of " + p, x.effect(7, p, true), 0);
        }
        x.dance(0, 1, false);
        check.same("it does not depend on where the dancers are", x.effect(0, 2, false), 8);
    }

    private static void alike(Check check) {
        DanceFigures x = new DanceFigures();
        for (int figure : NO_FIGURES) {
            check.same("alike(" + figure + ", 0)", x.alike(figure, 0), NO_SUCH);
            check.same("alike(0, " + figure + ")", x.alike(0, figure), NO_SUCH);
        }
        check.same("both without moves", x.alike(0, 7), 1);
        x.add(0, SWAP, 0, 1);
        x.add(0, SWAP, 1, 2);
        x.add(1, SWAP, 0, 2);
        check.same("not the same places", x.alike(0, 1), 0);
        x.add(1, SWAP, 0, 1);
        check.same("the same in other ways", x.alike(0, 1), 1);
        x.add(1, TURN, 5, 2);
        check.same("faces count", x.alike(0, 1), 0);
        check.same("with itself", x.alike(1, 1), 1);
        x.add(2, REVERSE, 3, 4);
        x.add(3, SWAP, 3, 4);
        check.same("reverse turns", x.alike(2, 3), 0);
        for (int place = 0; place < 10; place++) {
            x.add(4, TURN, place, 1);
            check.same("a face at " + place, x.alike(4, 5), 0);
            check.same("at the same place", x.alike(4, 4), 1);
            x.drop(4);
        }
    }

    private static void commute(Check check) {
        DanceFigures x = new DanceFigures();
        for (int figure : NO_FIGURES) {
            check.same("commute(" + figure + ", 0)", x.commute(figure, 0), NO_SUCH);
            check.same("commute(0, " + figure + ")", x.commute(0, figure), NO_SUCH);
        }
        x.add(0, SWAP, 0, 1);
        x.add(1, SWAP, 1, 2);
        x.add(2, SWAP, 3, 4);
        x.add(3, TURN, 0, 1);
        x.add(4, RING, 3, 0);
        x.add(5, RING, 9, 0);
        check.same("a place in common", x.commute(0, 1), 0);
        check.same("no place in common", x.commute(0, 2), 1);
        check.same("the face in common", x.commute(0, 3), 0);
        check.same("two rings", x.commute(4, 5), 1);
        check.same("ring and turn", x.commute(3, 4), 0);
        check.same("with itself", x.commute(1, 1), 1);
        check.same("with nothing", x.commute(1, 7), 1);
        ringIs(check, x, "0123456789/0000000000");
        check.same("it is no dance", x.total(0), 0);
    }

    private static void count(Check check) {
        DanceFigures x = new DanceFigures();
        for (int what : new int[] {-1, 6, Integer.MIN_VALUE, Integer.MAX_VALUE}) {
            check.same("count(" + what + ")", x.count(what), BAD_VALUE);
        }
        x.add(0, SWAP, 0, 1);
        x.add(0, TURN, 5, 1);
        x.add(6, CALL, 3, 0);
        x.dance(0, 1, false);
        x.hold(3, 4);
        x.hold(6, 7);
        write(x, "abc");
        int[] due = {7, 8, 2, 2, 5, 3};
        for (int what = 0; what < 6; what++) {
            check.same("count(" + what + ")", x.count(what), due[what]);
        }
    }

    private static void total(Check check) {
        DanceFigures x = new DanceFigures();
        for (int what : new int[] {-1, 3, Integer.MIN_VALUE, Integer.MAX_VALUE}) {
            check.same("total(" + what + ")", x.total(what), BAD_VALUE);
        }
        x.add(0, SWAP, 0, 5);
        x.add(0, TURN, 5, 1);
        x.dance(0, 3, false);
        check.same("a call is counted once", x.total(0), 1);
        check.same("steps each time", x.total(1), 6);
        x.dance(0, 2, true);
        check.same("backwards too", x.total(1), 10);
        write(x, "A2 B A'");
        x.run();
        check.same("in scripts too", x.total(0), 5);
        check.same("with their steps", x.total(1), 16);
        x.hold(0, 1);
        x.hold(5, 6);
        x.release(5);
        x.goHome();
        check.same("release is not counted, nor neighbors", x.total(2), 0);
        x.release(0);
        x.hold(2, 3);
        x.dance(0, 1, false);
        x.hold(5, 9);
        x.hold(0, 4);
        x.goHome();
        check.same("each pair is counted once", x.total(2), 2);
        x.undo();
        check.same("undone", x.total(2), 0);
    }

    private static void blockedAt(Check check) {
        DanceFigures x = new DanceFigures();
        for (int figure : NO_FIGURES) {
            check.same("blockedAt(" + figure + ")", x.blockedAt(figure, false), NO_SUCH);
        }
        x.add(0, TURN, 0, 1);
        x.add(0, RING, 1, 0);
        x.add(0, SWAP, 2, 3);
        x.add(0, TURN, 0, 1);
        x.add(1, CALL, 0, 0);
        check.same("without holds", x.blockedAt(1, false), NONE);
        x.hold(0, 1);
        check.same("in front of the swap", x.blockedAt(1, false), 2);
        check.same("backwards it can be done", x.blockedAt(1, true), NONE);
        check.same("no moves", x.blockedAt(7, false), NONE);
        x.hold(3, 4);
        check.same("backwards, in front of the swap", x.blockedAt(1, true), 1);
        x.release(3);
        x.add(2, RING, 1, 0);
        x.add(2, SWAP, 3, 4);
        check.same("twice it would be blocked, but once it is not", x.blockedAt(2, false), NONE);
        check.same("indeed", x.dance(2, 2, false), -103);
        ringIs(check, x, "0123456789/0000000000");
        check.same("nothing was danced", x.total(0), 0);
    }

    private static void homeIn(Check check) {
        DanceFigures x = new DanceFigures();
        for (int figure : NO_FIGURES) {
            check.same("homeIn(" + figure + ")", x.homeIn(figure), NO_SUCH);
        }
        x.add(0, RING, 3, 0);
        x.add(1, RING, 5, 0);
        x.add(2, TURN, 0, 1);
        x.hold(0, 1);
        check.same("already there", x.homeIn(0), 0);
        x.dance(0, 1, false);
        check.same("nine times more", x.homeIn(0), 9);
        check.same("never", x.homeIn(1), NONE);
        check.same("a figure without moves", x.homeIn(7), NONE);
        x.dance(0, 4, false);
        check.same("by half a ring", x.homeIn(1), 1);
        check.same("five times", x.homeIn(0), 5);
        x.goHome();
        x.dance(2, 3, false);
        check.same("faces count", x.homeIn(2), 1);
        check.same("not by places", x.homeIn(0), NONE);
        x.add(3, SWAP, 1, 2);
        x.goHome();
        x.dance(2, 1, false);
        x.add(3, TURN, 0, 1);
        check.same("holds do not count", x.homeIn(3), NONE);
        x.drop(3);
        x.dance(2, 1, true);
        x.release(0);
        x.dance(3, 1, false);
        x.hold(0, 2);
        check.same("though it is blocked", x.blockedAt(3, false), 0);
        check.same("without regard to holds", x.homeIn(3), 1);
        longestWay(check);
    }

    private static void longestWay(Check check) {
        DanceFigures x = new DanceFigures();
        x.add(0, SWAP, 0, 1);
        x.add(0, SWAP, 1, 2);
        x.add(0, SWAP, 2, 3);
        x.add(0, SWAP, 3, 4);
        x.add(0, SWAP, 5, 6);
        x.add(0, SWAP, 6, 7);
        x.add(0, SWAP, 8, 9);
        x.add(0, TURN, 0, 1);
        x.add(0, TURN, 5, 1);
        x.add(0, TURN, 8, 1);
        x.dance(0, 1, false);
        check.same("the longest of all", x.homeIn(0), 119);
        x.dance(0, 2, true);
        check.same("once", x.homeIn(0), 1);
    }

    private static void wayIs(Check check, DanceFigures x, int length, int... row) {
        check.same("wayHome(0)", x.wayHome(0), length);
        for (int what = 1; what <= 4; what++) {
            check.same("wayHome(" + what + ")", x.wayHome(what), what <= row.length ? row[what - 1] : NONE);
        }
    }

    private static void wayHome(Check check) {
        DanceFigures x = new DanceFigures();
        for (int what : new int[] {-1, 5, Integer.MIN_VALUE, Integer.MAX_VALUE}) {
            check.same("wayHome(" + what + ")", x.wayHome(what), BAD_VALUE);
        }
        wayIs(check, x, 0);
        x.add(2, RING, 1, 0);
        x.add(3, RING, 3, 0);
        x.add(5, RING, 3, 0);
        x.add(6, RING, 7, 0);
        x.dance(2, 9, false);
        wayIs(check, x, 1, 2);
        x.dance(2, 1, true);
        wayIs(check, x, 2, 2, 2);
        x.dance(2, 1, true);
        wayIs(check, x, 1, 3);
        x.dance(2, 1, true);
        wayIs(check, x, 2, 2, 3);
        x.dance(2, 1, true);
        wayIs(check, x, 3, 2, 2, 3);
        x.dance(2, 3, true);
        wayIs(check, x, 2, 2, 6);
        x.drop(6);
        wayIs(check, x, 4, 2, 2, 3, 3);
        x.drop(2);
        wayIs(check, x, NONE);
        x.add(7, TURN, 4, 1);
        x.goHome();
        x.hold(4, 5);
        x.dance(7, 3, true);
        wayIs(check, x, 3, 7, 7, 7);
        x.dance(7, 1, false);
        wayIs(check, x, 2, 7, 7);
        x.dance(7, 2, false);
        wayIs(check, x, 0);
        orderOfRow(check);
        eachDancerCounts(check);
    }

    /** All dancers, the first and the last one too, must be at home with their faces. */
    private static void eachDancerCounts(Check check) {
        for (int place = 0; place < 10; place++) {
            DanceFigures x = new DanceFigures();
            x.add(0, TURN, place, 1);
            x.add(1, RING, 1, 0);
            x.dance(0, 2, false);
            wayIs(check, x, 2, 0, 0);
            check.same("home is two times away", x.homeIn(0), 2);
            check.same("all the others are at home", x.count(0), 9);
        }
    }

    /** Not every order of the same figures brings home; nothing is blocked by holds. */
    private static void orderOfRow(Check check) {
        DanceFigures x = new DanceFigures();
        x.add(0, SWAP, 0, 1);
        x.add(1, SWAP, 1, 2);
        x.dance(0, 1, false);
        x.dance(1, 1, false);
        x.hold(2, 1);
        check.same("it is blocked now", x.blockedAt(1, false), 0);
        wayIs(check, x, 2, 1, 0);
        x.release(2);
        x.goHome();
        x.dance(0, 1, false);
        x.dance(1, 1, false);
        x.dance(0, 1, false);
        wayIs(check, x, 3, 0, 1, 0);
        x.add(0, TURN, 7, 1);
        x.add(5, CALL, 0, 0);
        wayIs(check, x, NONE);
        ringIs(check, x, "2103456789/0000000000");
    }

    private static void distance(Check check) {
        DanceFigures x = new DanceFigures();
        check.same("at home", x.distance(), 0.0);
        x.add(0, SWAP, 0, 9);
        x.add(1, SWAP, 2, 6);
        x.add(2, RING, 5, 0);
        x.add(3, TURN, 3, 1);
        x.add(4, RING, 7, 0);
        x.dance(3, 1, false);
        check.same("faces do not count", x.distance(), 0.0);
        x.dance(0, 1, false);
        check.same("0 and 9 are neighbors", x.distance(), 0.2);
        x.dance(1, 1, false);
        check.same("four each", x.distance(), 1.0);
        x.goHome();
        x.dance(2, 1, false);
        check.same("as far as can be", x.distance(), 5.0);
        x.goHome();
        x.dance(4, 1, false);
        check.same("the shorter way", x.distance(), 3.0);
    }
}
