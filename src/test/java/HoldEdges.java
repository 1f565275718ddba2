/** The boundary cases of holds, and of the dances that they hinder. */
final class HoldEdges extends Basics {
    private HoldEdges() {
    }

    static void addTo(Tests tests) {
        holds(tests);
        neighborsAfterStep(tests);
        wholeSteps(tests);
        releases(tests);
        dances(tests);
        stops(tests);
        homecomings(tests);
        asksForDancers(tests);
        foresight(tests);
    }

    // ---- hold and release

    private static void holds(Tests tests) {
        tests.put("holds: a dancer holds at most one other", check -> {
            DanceFigures x = new DanceFigures();
            x.hold(4, 5);
            check.same("the first one holds", x.hold(4, 3), NOT_POSSIBLE);
            check.same("the second one holds", x.hold(3, 4), NOT_POSSIBLE);
            check.same("who is held holds too", x.hold(5, 6), NOT_POSSIBLE);
            check.same("and as the second one", x.hold(6, 5), NOT_POSSIBLE);
            check.same("the same pair again", x.hold(4, 5), NOT_POSSIBLE);
            check.same("the same pair, the other way", x.hold(5, 4), NOT_POSSIBLE);
            check.same("there is one pair", x.count(2), 1);
        });
        tests.put("holds: five pairs, the most that there are", HoldEdges::fivePairs);
        tests.put("holds: released, both can hold again", check -> {
            DanceFigures x = new DanceFigures();
            x.hold(0, 9);
            x.release(9);
            check.same("the one", x.hold(0, 1), 1);
            check.same("the other", x.hold(8, 9), 2);
        });
        tests.put("holds: neighbors are told by the places, not by the dancers' numbers", check -> {
            DanceFigures x = with(SWAP, 0, 5);
            x.dance(0, 1, false);
            check.same("0 stands at 5, and 1 at 1", x.hold(0, 1), NOT_POSSIBLE);
            check.same("0 stands at 5, and 6 at 6", x.hold(0, 6), 1);
            check.same("5 stands at 0, and 9 at 9", x.hold(9, 5), 2);
        });
        tests.put("promise 4: hold, dancers are 0 to 9", check -> {
            check.same("the first one", new DanceFigures().hold(0, 1), 1);
            check.same("the first one, as other", new DanceFigures().hold(1, 0), 1);
            check.same("the last one", new DanceFigures().hold(9, 8), 1);
            check.same("the last one, as other", new DanceFigures().hold(8, 9), 1);
            DanceFigures x = new DanceFigures();
            check.same("one less", x.hold(-1, 0), NO_SUCH);
            check.same("one less, as other", x.hold(0, -1), NO_SUCH);
            check.same("one more", x.hold(10, 9), NO_SUCH);
            check.same("one more, as other", x.hold(9, 10), NO_SUCH);
            check.same("the lowest number", x.hold(LOWEST, 0), NO_SUCH);
            check.same("the highest number, as other", x.hold(0, HIGHEST), NO_SUCH);
        });
        tests.put("promise 4: hold, BAD_VALUE if both are the same", check -> {
            DanceFigures x = new DanceFigures();
            for (int dancer = 0; dancer < 10; dancer++) {
                check.same("hold(" + dancer + ") of itself", x.hold(dancer, dancer), BAD_VALUE);
            }
            check.same("there is no pair", x.count(2), 0);
        });
    }

    private static void fivePairs(Check check) {
        DanceFigures x = new DanceFigures();
        check.same("the pair across 9 and 0", x.hold(9, 0), 1);
        check.same("the second", x.hold(1, 2), 2);
        check.same("the third", x.hold(3, 4), 3);
        check.same("the fourth", x.hold(6, 5), 4);
        check.same("the fifth", x.hold(8, 7), 5);
        for (int dancer = 0; dancer < 10; dancer++) {
            check.same("a sixth", x.hold(dancer, (dancer + 1) % 10), NOT_POSSIBLE);
            int other = x.dancer(dancer, 2);
            check.same("who holds whom", x.dancer(other, 2), dancer);
        }
        check.same("five", x.count(2), 5);
    }

    private static void releases(Tests tests) {
        tests.put("promise 5: release, dancers are 0 to 9", check -> {
            DanceFigures x = new DanceFigures();
            x.hold(0, 1);
            x.hold(9, 8);
            check.same("the first one", x.release(0), 1);
            check.same("the last one", x.release(9), 8);
            for (int dancer : NO_PLACES) {
                check.same("release(" + dancer + ")", x.release(dancer), NO_SUCH);
            }
        });
        tests.put("promise 5: release, NOT_POSSIBLE if it holds no dancer", check -> {
            DanceFigures x = new DanceFigures();
            check.same("never", x.release(0), NOT_POSSIBLE);
            x.hold(0, 1);
            check.same("another one holds", x.release(2), NOT_POSSIBLE);
            check.same("the last pair", x.release(1), 0);
            check.same("no more", x.release(1), NOT_POSSIBLE);
            check.same("nor the other", x.release(0), NOT_POSSIBLE);
        });
    }

    // ---- which steps are not possible

    /** The answer of one step from home, while two dancers hold each other. */
    private static int stepWhile(int dancer, int other, int... step) {
        DanceFigures x = with(step);
        x.hold(dancer, other);
        return x.dance(0, 1, false);
    }

    private static void neighborsAfterStep(Tests tests) {
        tests.put("holds: a step that leaves them apart by 1 is possible", check -> {
            check.same("at 1 and 2, as 1 and 0", stepWhile(0, 1, SWAP, 0, 2), 1);
            check.same("at 7 and 8", stepWhile(8, 9, SWAP, 7, 9), 1);
            check.same("in each other's places", stepWhile(0, 1, SWAP, 0, 1), 1);
            check.same("where they are", stepWhile(4, 5, SWAP, 3, 6), 1);
        });
        tests.put("holds: a step that leaves them apart by 2 is not", check -> {
            check.same("at 0 and 2", stepWhile(0, 1, SWAP, 1, 2), -100);
            check.same("at 7 and 9", stepWhile(8, 9, SWAP, 7, 8), -100);
            check.same("the other way round", stepWhile(1, 0, SWAP, 1, 2), -100);
        });
        tests.put("holds: a step that leaves them apart by 3 to 7 is not", check -> {
            for (int b = 4; b <= 8; b++) {
                check.same("at 1 and " + b, stepWhile(1, 2, SWAP, 2, b), -100);
            }
        });
        tests.put("holds: a step that leaves them at 0 and 9 is possible", check -> {
            check.same("from 8 and 9", stepWhile(8, 9, SWAP, 0, 8), 1);
            check.same("from 0 and 1", stepWhile(1, 0, SWAP, 1, 9), 1);
            check.same("by a ring", stepWhile(8, 9, RING, 1, 0), 1);
            check.same("back by a ring", stepWhile(0, 1, RING, 9, 0), 1);
            check.same("in each other's places", stepWhile(0, 9, SWAP, 0, 9), 1);
        });
        tests.put("holds: a step that leaves them at 0 and 8 or at 1 and 9 is not", check -> {
            check.same("0 and 8", stepWhile(0, 9, SWAP, 8, 9), -100);
            check.same("1 and 9", stepWhile(9, 0, SWAP, 0, 1), -100);
        });
        tests.put("holds: each pair counts, the first and the last one", HoldEdges::eachPairCounts);
        tests.put("holds: TURN is always possible", check -> {
            DanceFigures x = new DanceFigures();
            for (int place = 0; place < 10; place++) {
                x.add(0, TURN, place, 3);
                x.hold(place, (place + 1) % 10);
            }
            check.same("ten turns", x.dance(0, 1, false), 10);
        });
    }

    private static void eachPairCounts(Check check) {
        for (int place = 0; place < 10; place += 2) {
            DanceFigures x = with(SWAP, place, place + 1);
            for (int dancer = 1; dancer < 10; dancer += 2) {
                x.hold(dancer, (dancer + 1) % 10);
            }
            check.same("two pairs would part at " + place, x.dance(0, 1, false), -100);
        }
        for (int place = 0; place < 10; place++) {
            int next = (place + 1) % 10;
            int behind = (place + 2) % 10;
            check.same("the pair at " + place,
                    stepWhile(place, next, SWAP, Math.min(next, behind), Math.max(next, behind)), -100);
        }
    }

    private static void wholeSteps(Tests tests) {
        tests.put("holds: a step is looked at as a whole, RING parts nobody", check -> {
            DanceFigures x = new DanceFigures();
            for (int a = 1; a <= 9; a++) {
                x.add(0, RING, a, 0);
            }
            for (int dancer = 0; dancer < 10; dancer += 2) {
                x.hold(dancer, dancer + 1);
            }
            check.same("with five pairs", x.dance(0, 9, false), 81);
            check.same("there still are five", x.count(2), 5);
        });
        tests.put("holds: a step is looked at as a whole, REVERSE with both in it", check -> {
            check.same("in the middle", stepWhile(4, 5, REVERSE, 3, 6), 1);
            check.same("at its beginning", stepWhile(3, 4, REVERSE, 3, 6), 1);
            check.same("at its end", stepWhile(6, 5, REVERSE, 3, 6), 1);
            check.same("in all of the ring", stepWhile(9, 0, REVERSE, 0, 9), 1);
        });
        tests.put("holds: REVERSE with one of them in it parts them", check -> {
            check.same("at its beginning", stepWhile(2, 3, REVERSE, 3, 6), -100);
            check.same("at its end", stepWhile(6, 7, REVERSE, 3, 6), -100);
            check.same("across 9 and 0", stepWhile(9, 0, REVERSE, 0, 6), -100);
        });
        tests.put("holds: REVERSE of nine places leaves the tenth a neighbor of both its ends", check -> {
            check.same("9 of 0 and 8", stepWhile(8, 9, REVERSE, 0, 8), 1);
            check.same("9 of 8 and 0", stepWhile(9, 0, REVERSE, 0, 8), 1);
            check.same("0 of 1 and 9", stepWhile(0, 1, REVERSE, 1, 9), 1);
        });
        tests.put("holds: they have no influence on effects and orders", check -> {
            DanceFigures x = with(SWAP, 1, 5);
            x.hold(0, 1);
            check.same("it cannot be done", x.dance(0, 1, false), -100);
            check.same("its effect is the same", x.effect(0, 1, false), 5);
            check.same("its order is the same", x.figure(0, 2), 2);
            check.same("it is not like nothing", x.alike(0, 7), 0);
        });
    }

    // ---- dance

    private static void dances(Tests tests) {
        tests.put("promise 6: dance, figures are 0 to 7", check -> {
            DanceFigures x = with(SWAP, 0, 1);
            putOften(x, 2, 7, SWAP, 0, 1);
            check.same("the first one", x.dance(0, 1, false), 1);
            check.same("the last one", x.dance(7, 1, false), 2);
            for (int figure : NO_FIGURES) {
                check.same("dance(" + figure + ")", x.dance(figure, 1, false), NO_SUCH);
                check.same("backwards", x.dance(figure, 1, true), NO_SUCH);
            }
        });
        tests.put("promise 6: dance, times are 1 to 9", check -> {
            DanceFigures x = with(RING, 1, 0);
            check.same("once", x.dance(0, 1, false), 1);
            ringIs(check, x, "9012345678/0000000000");
            check.same("nine times", x.dance(0, 9, false), 9);
            ringIs(check, x, HOME);
            for (int times : new int[] {0, 10, -1, LOWEST, HIGHEST}) {
                check.same(times + " times", x.dance(0, times, false), BAD_VALUE);
                check.same(times + " times backwards", x.dance(0, times, true), BAD_VALUE);
            }
            ringIs(check, x, HOME);
        });
        tests.put("promise 6: dance, the fewest steps, 0 of a figure without moves", check -> {
            DanceFigures x = new DanceFigures();
            x.hold(0, 1);
            check.same("once", x.dance(0, 1, false), 0);
            check.same("nine times backwards", x.dance(7, 9, true), 0);
        });
        tests.put("promise 6: dance, the most steps, 120 nine times", check -> {
            DanceFigures x = withSteps(120);
            x.hold(0, 1);
            check.same("forwards", x.dance(3, 9, false), 1080);
            check.same("backwards", x.dance(3, 9, true), 1080);
            check.same("steps in all", x.total(1), 2160);
            ringIs(check, x, HOME);
        });
        tests.put("promise 6: dance, a figure without moves is a call that is danced", check -> {
            DanceFigures x = new DanceFigures();
            x.dance(7, 9, false);
            check.same("calls", x.total(0), 1);
            check.same("steps", x.total(1), 0);
        });
        tests.put("promise 6: dance, it is done backwards each time", check -> {
            DanceFigures x = with(RING, 3, 0, TURN, 9, 1);
            x.dance(0, 9, false);
            x.dance(0, 8, true);
            check.same("once is left", x.at(3), 0);
            x.dance(0, 1, true);
            ringIs(check, x, HOME);
        });
        tests.put("promise 6: dance, all of it or nothing", check -> {
            DanceFigures x = with(TURN, 5, 1, RING, 1, 0, SWAP, 0, 1);
            x.hold(1, 2);
            check.same("possible once", x.blockedAt(0, false), NONE);
            check.same("but not nine times", x.dance(0, 9, false), -123);
            ringIs(check, x, HOME);
            check.same("no call is counted", x.total(0), 0);
            check.same("no step is counted", x.total(1), 0);
        });
    }

    private static void stops(Tests tests) {
        tests.put("promise 6: dance, -100 if the first step is not possible", check -> {
            DanceFigures x = with(SWAP, 1, 2, TURN, 0, 1);
            x.hold(2, 3);
            check.same("forwards", x.dance(0, 1, false), -100);
            check.same("forwards, often", x.dance(0, 9, false), -100);
            put(x, 1, TURN, 0, 1, SWAP, 1, 2);
            check.same("backwards, the last step is the first one", x.dance(1, 9, true), -100);
        });
        tests.put("promise 6: dance, -100 - n if the last step is not possible", check -> {
            DanceFigures x = with(TURN, 0, 1, TURN, 0, 1, SWAP, 1, 2);
            x.hold(2, 3);
            check.same("forwards", x.dance(0, 1, false), -102);
            put(x, 1, SWAP, 1, 2, TURN, 0, 1, TURN, 0, 1);
            check.same("backwards, the first step is the last one", x.dance(1, 1, true), -102);
        });
        tests.put("promise 6: dance, the steps of all times are counted together", check -> {
            DanceFigures x = with(RING, 1, 0, SWAP, 0, 9);
            x.hold(2, 3);
            check.same("five times are possible", x.blockedAt(0, false), NONE);
            check.same("the sixth is not, at its second step", x.dance(0, 6, false), -111);
            check.same("however often it is wanted", x.dance(0, 9, false), -111);
            check.same("five times", x.dance(0, 5, false), 10);
        });
        tests.put("promise 6: dance, the last step of 120", check -> {
            DanceFigures x = withSteps(119);
            put(x, 3, SWAP, 0, 1);
            x.hold(1, 2);
            check.same("it is the 120th", x.dance(3, 1, false), -219);
            check.same("backwards it is the first one", x.dance(3, 1, true), -100);
        });
        tests.put("promise 6: dance, a stop in the ninth time of 120 steps", check -> {
            DanceFigures x = withSteps(117);
            put(x, 4, REVERSE, 0, 9, CALL, 3, 0, SWAP, 0, 2, REVERSE, 3, 9);
            x.hold(2, 3);
            check.same("8 times 120 steps, and 118 more", x.dance(4, 9, false), -1178);
            check.same("8 times can be done", x.dance(4, 8, false), 960);
            check.same("the ninth time has 118 steps", x.dance(4, 1, false), -218);
        });
    }

    // ---- goHome

    private static void homecomings(Tests tests) {
        tests.put("promise 7: goHome, 0 if all are at home, 10 if none is", check -> {
            DanceFigures x = with(RING, 1, 0);
            check.same("all are", x.goHome(), 0);
            x.dance(0, 1, false);
            check.same("none is", x.goHome(), 10);
            ringIs(check, x, HOME);
        });
        tests.put("promise 7: goHome, a place or a face that changes counts, both count once", check -> {
            DanceFigures x = with(TURN, 0, 1);
            put(x, 1, SWAP, 0, 9);
            x.dance(0, 1, false);
            check.same("a face", x.goHome(), 1);
            x.dance(1, 1, false);
            check.same("two places", x.goHome(), 2);
            x.dance(0, 1, false);
            x.dance(1, 1, false);
            check.same("two places, one of them with a face", x.goHome(), 2);
            ringIs(check, x, HOME);
        });
        tests.put("promise 7: goHome, 0 and 9 still hold each other", check -> {
            DanceFigures x = with(SWAP, 0, 5, SWAP, 4, 9);
            x.dance(0, 1, false);
            check.same("0 at 5 and 9 at 4", x.hold(0, 9), 1);
            check.same("four come home", x.goHome(), 4);
            check.same("held", x.dancer(9, 2), 0);
            check.same("none was released", x.total(2), 0);
        });
        tests.put("promise 7: goHome, those who are neighbors still hold each other", check -> {
            DanceFigures x = with(RING, 1, 0);
            x.hold(8, 9);
            x.hold(0, 1);
            x.dance(0, 1, false);
            x.goHome();
            check.same("two pairs", x.count(2), 2);
            check.same("none was released", x.total(2), 0);
        });
        tests.put("promise 7: goHome, those who are apart by 2, or 0 and 8, are released", check -> {
            DanceFigures x = with(SWAP, 8, 9, SWAP, 3, 4);
            x.dance(0, 1, false);
            x.hold(8, 0);
            x.hold(2, 4);
            check.same("the 8 and 9, the 3 and 4", x.goHome(), 4);
            check.same("no pair", x.count(2), 0);
            check.same("two were released", x.total(2), 2);
            check.same("0 holds nobody", x.dancer(0, 2), NONE);
            check.same("8 holds nobody", x.dancer(8, 2), NONE);
        });
        tests.put("promise 7: goHome, all five pairs are released", HoldEdges::allAreReleased);
    }

    private static void allAreReleased(Check check) {
        DanceFigures x = with(SWAP, 1, 5, SWAP, 3, 7, SWAP, 0, 9);
        x.dance(0, 1, false);
        // 9 5 2 7 4 1 6 3 8 0
        check.same("9 and 5", x.hold(9, 5), 1);
        check.same("2 and 7", x.hold(2, 7), 2);
        check.same("4 and 1", x.hold(4, 1), 3);
        check.same("6 and 3", x.hold(6, 3), 4);
        check.same("8 and 0", x.hold(8, 0), 5);
        check.same("six come home", x.goHome(), 6);
        check.same("no pair", x.count(2), 0);
        check.same("each pair is counted once", x.total(2), 5);
        for (int dancer = 0; dancer < 10; dancer++) {
            check.same("nobody is held", x.dancer(dancer, 2), NONE);
        }
    }

    // ---- dancer and at

    private static void asksForDancers(Tests tests) {
        tests.put("promise 15: dancer, dancers are 0 to 9", check -> {
            DanceFigures x = with(SWAP, 0, 9);
            x.dance(0, 1, false);
            check.same("the first one", x.dancer(0, 0), 9);
            check.same("the last one", x.dancer(9, 0), 0);
            for (int dancer : NO_PLACES) {
                check.same("dancer(" + dancer + ")", x.dancer(dancer, 0), NO_SUCH);
            }
        });
        tests.put("promise 15: dancer, what is 0 to 2", check -> {
            DanceFigures x = with(TURN, 7, 3);
            x.dance(0, 1, false);
            x.hold(7, 8);
            check.same("place", x.dancer(7, 0), 7);
            check.same("face", x.dancer(7, 1), 3);
            check.same("whom it holds", x.dancer(7, 2), 8);
            for (int what : new int[] {-1, 3, LOWEST, HIGHEST}) {
                check.same("what " + what, x.dancer(7, what), BAD_VALUE);
            }
        });
        tests.put("promise 15: dancer, NONE without one whom it holds", check -> {
            DanceFigures x = new DanceFigures();
            check.same("the first one", x.dancer(0, 2), NONE);
            check.same("the last one", x.dancer(9, 2), NONE);
            x.hold(0, 9);
            check.same("0 is a dancer", x.dancer(9, 2), 0);
            x.release(0);
            check.same("none any more", x.dancer(9, 2), NONE);
        });
        tests.put("promise 16: at, places are 0 to 9", check -> {
            DanceFigures x = with(SWAP, 0, 9);
            x.dance(0, 1, false);
            check.same("the first one", x.at(0), 9);
            check.same("the last one", x.at(9), 0);
            for (int place : NO_PLACES) {
                check.same("at(" + place + ")", x.at(place), NO_SUCH);
            }
        });
    }

    // ---- blockedAt

    private static void foresight(Tests tests) {
        tests.put("promise 24: blockedAt, figures are 0 to 7", check -> {
            DanceFigures x = with(TURN, 0, 1, SWAP, 1, 2);
            x.add(7, SWAP, 1, 2);
            x.hold(2, 3);
            check.same("the first one", x.blockedAt(0, false), 1);
            check.same("the last one", x.blockedAt(7, false), 0);
            for (int figure : NO_FIGURES) {
                check.same("blockedAt(" + figure + ")", x.blockedAt(figure, false), NO_SUCH);
                check.same("backwards", x.blockedAt(figure, true), NO_SUCH);
            }
        });
        tests.put("promise 24: blockedAt, 0 if the first step is not possible", check -> {
            DanceFigures x = with(SWAP, 1, 2, TURN, 0, 1);
            x.hold(2, 3);
            check.same("forwards", x.blockedAt(0, false), 0);
            check.same("backwards it is the second one", x.blockedAt(0, true), 1);
        });
        tests.put("promise 24: blockedAt, 119 if the last step of 120 is not possible", check -> {
            DanceFigures x = withSteps(119);
            put(x, 3, SWAP, 0, 1);
            x.hold(1, 2);
            check.same("forwards", x.blockedAt(3, false), 119);
            check.same("backwards", x.blockedAt(3, true), 0);
        });
        tests.put("promise 24: blockedAt, NONE if all steps are possible", check -> {
            DanceFigures x = withSteps(120);
            x.hold(0, 1);
            check.same("forwards", x.blockedAt(3, false), NONE);
            check.same("backwards", x.blockedAt(3, true), NONE);
        });
        tests.put("promise 24: blockedAt, NONE of a figure without moves", check -> {
            DanceFigures x = new DanceFigures();
            x.hold(0, 1);
            check.same("forwards", x.blockedAt(0, false), NONE);
            check.same("backwards", x.blockedAt(7, true), NONE);
        });
        tests.put("promise 24: blockedAt, NONE without holds", check -> {
            DanceFigures x = with(SWAP, 0, 5, REVERSE, 2, 7);
            check.same("forwards", x.blockedAt(0, false), NONE);
            check.same("backwards", x.blockedAt(0, true), NONE);
        });
        tests.put("promise 24: blockedAt, the figure is done once", check -> {
            DanceFigures x = with(RING, 1, 0, SWAP, 0, 9);
            x.hold(6, 7);
            check.same("once it is possible", x.blockedAt(0, false), NONE);
            check.same("twice it is not", x.dance(0, 2, false), -103);
        });
        tests.put("promise 24: blockedAt tells of now, not of home", check -> {
            DanceFigures x = with(SWAP, 0, 1);
            put(x, 1, RING, 9, 0);
            x.hold(1, 2);
            check.same("at home", x.blockedAt(0, false), 0);
            x.dance(1, 1, false);
            check.same("one place on", x.blockedAt(0, false), NONE);
        });
    }
}
