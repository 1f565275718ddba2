/** The boundary cases of the ways home and of the distance. */
final class WayEdges extends Basics {
    private WayEdges() {
    }

    static void addTo(Tests tests) {
        times(tests);
        ways(tests);
        firstWays(tests);
        distances(tests);
    }

    // ---- homeIn

    private static void times(Tests tests) {
        tests.put("promise 25: homeIn, figures are 0 to 7", check -> {
            DanceFigures x = with(RING, 1, 0);
            x.add(7, RING, 9, 0);
            x.dance(0, 1, false);
            check.same("the first one", x.homeIn(0), 9);
            check.same("the last one", x.homeIn(7), 1);
            for (int figure : NO_FIGURES) {
                check.same("homeIn(" + figure + ")", x.homeIn(figure), NO_SUCH);
            }
        });
        tests.put("promise 25: homeIn, 0 if all are at home", check -> {
            DanceFigures x = with(RING, 1, 0);
            check.same("with moves", x.homeIn(0), 0);
            check.same("without moves", x.homeIn(7), 0);
        });
        tests.put("promise 25: homeIn, NONE of a figure without moves if not all are at home", check -> {
            DanceFigures x = with(TURN, 9, 3);
            x.dance(0, 1, false);
            check.same("without moves", x.homeIn(7), NONE);
            check.same("with them", x.homeIn(0), 3);
        });
        tests.put("promise 25: homeIn, NONE if it never does", check -> {
            DanceFigures x = with(RING, 1, 0);
            x.add(1, RING, 2, 0);
            x.dance(0, 1, false);
            check.same("by two places each time", x.homeIn(1), NONE);
            x.dance(0, 1, false);
            check.same("now it does", x.homeIn(1), 4);
        });
        tests.put("promise 25: homeIn, the most times, 119", check -> {
            DanceFigures x = with(SWAP, 0, 1, SWAP, 1, 2, SWAP, 2, 3, SWAP, 3, 4,
                    SWAP, 5, 6, SWAP, 6, 7, SWAP, 8, 9, TURN, 9, 1);
            x.dance(0, 1, false);
            check.same("all but one", x.homeIn(0), 119);
            x.dance(0, 2, true);
            check.same("one", x.homeIn(0), 1);
        });
        tests.put("promise 25: homeIn, the face of the first and of the last dancer counts", check -> {
            for (int place : new int[] {0, 9}) {
                DanceFigures x = with(TURN, place, 1);
                x.add(1, RING, 5, 0);
                x.dance(0, 2, false);
                check.same("two more at " + place, x.homeIn(0), 2);
                check.same("all at their places, but not home", x.homeIn(1), NONE);
            }
        });
        tests.put("promise 25: homeIn has no regard to holds", check -> {
            DanceFigures x = with(SWAP, 0, 1);
            x.dance(0, 1, false);
            x.hold(0, 2);
            check.same("the step is not possible", x.blockedAt(0, false), 0);
            check.same("once", x.homeIn(0), 1);
        });
    }

    // ---- wayHome

    private static void wayIs(Check check, DanceFigures x, int length, int... row) {
        check.same("wayHome(0)", x.wayHome(0), length);
        for (int what = 1; what <= 4; what++) {
            check.same("wayHome(" + what + ")", x.wayHome(what), what <= row.length ? row[what - 1] : NONE);
        }
    }

    /** The figure 0 is a ring by a; the dancers are so many places away from home. */
    private static DanceFigures away(int a, int places) {
        DanceFigures x = with(RING, places, 0);
        x.dance(0, 1, false);
        x.drop(0);
        x.add(0, RING, a, 0);
        return x;
    }

    private static void ways(Tests tests) {
        tests.put("promise 26: wayHome, what is 0 to 4", check -> {
            DanceFigures x = away(1, 6);
            check.same("the length", x.wayHome(0), 4);
            check.same("the fourth figure", x.wayHome(4), 0);
            for (int what : new int[] {-1, 5, LOWEST, HIGHEST}) {
                check.same("what " + what, x.wayHome(what), BAD_VALUE);
            }
        });
        tests.put("promise 26: wayHome, no figure if all are at home", check -> {
            wayIs(check, new DanceFigures(), 0);
            wayIs(check, with(RING, 1, 0, RING, 9, 0), 0);
        });
        tests.put("promise 26: wayHome, one figure", check -> wayIs(check, away(1, 9), 1, 0));
        tests.put("promise 26: wayHome, two figures", check -> wayIs(check, away(1, 8), 2, 0, 0));
        tests.put("promise 26: wayHome, three figures", check -> wayIs(check, away(1, 7), 3, 0, 0, 0));
        tests.put("promise 26: wayHome, four figures, the most", check ->
                wayIs(check, away(1, 6), 4, 0, 0, 0, 0));
        tests.put("promise 26: wayHome, NONE if five figures are needed", check -> {
            wayIs(check, away(1, 5), NONE);
            check.same("though homeIn tells of them", away(1, 5).homeIn(0), 5);
        });
        tests.put("promise 26: wayHome, NONE if there is no way at all", check -> {
            wayIs(check, away(2, 1), NONE);
            DanceFigures x = with(TURN, 0, 1);
            x.dance(0, 1, false);
            x.drop(0);
            wayIs(check, x, NONE);
        });
        tests.put("promise 26: wayHome, each figure is done forwards", check -> {
            // backwards it would be one figure
            wayIs(check, away(2, 2), 4, 0, 0, 0, 0);
        });
        tests.put("promise 26: wayHome, the figures 0 and 7 in one row", check -> {
            DanceFigures x = away(1, 2);
            x.add(7, RING, 7, 0);
            wayIs(check, x, 2, 0, 7);
            x.drop(7);
            x.add(7, SWAP, 0, 9);
            x.dance(0, 7, false);
            x.dance(7, 1, false);
            wayIs(check, x, 2, 7, 0);
        });
        tests.put("promise 26: wayHome has no regard to holds", check -> {
            DanceFigures x = with(SWAP, 0, 1);
            x.dance(0, 1, false);
            x.hold(0, 2);
            check.same("the step is not possible", x.blockedAt(0, false), 0);
            wayIs(check, x, 1, 0);
        });
        tests.put("promise 26: wayHome, the face of the first and of the last dancer counts", check -> {
            for (int place : new int[] {0, 9}) {
                DanceFigures x = with(TURN, place, 1);
                x.add(1, RING, 5, 0);
                x.dance(0, 1, false);
                wayIs(check, x, 3, 0, 0, 0);
            }
        });
    }

    private static void firstWays(Tests tests) {
        tests.put("promise 26: wayHome, a shorter row of high figures before a longer one of low ones", check -> {
            DanceFigures x = away(1, 8);
            x.add(7, RING, 2, 0);
            wayIs(check, x, 1, 7);
        });
        tests.put("promise 26: wayHome, of the rows of one figure the lowest figure", check -> {
            DanceFigures x = away(9, 7);
            put(x, 5, RING, 3, 0);
            put(x, 6, RING, 3, 0);
            wayIs(check, x, 1, 5);
        });
        tests.put("promise 26: wayHome, of longer rows the first figure decides, then the next one", check -> {
            DanceFigures x = away(4, 3);
            put(x, 1, RING, 3, 0);
            put(x, 2, RING, 5, 0);
            put(x, 3, RING, 2, 0);
            // 7 more: 0 1, 1 0, 2 3 and 3 2
            wayIs(check, x, 2, 0, 1);
            x.drop(0);
            wayIs(check, x, 2, 2, 3);
        });
        tests.put("promise 26: wayHome, of the rows of four the last figure decides at last", check -> {
            DanceFigures x = away(1, 2);
            put(x, 5, RING, 5, 0);
            put(x, 6, RING, 5, 0);
            // 8 more: 0 0 0 5 before 0 0 0 6, 0 0 5 0 and all others
            wayIs(check, x, 4, 0, 0, 0, 5);
        });
        tests.put("promise 26: wayHome, a figure without moves is in no shortest row", check -> {
            DanceFigures x = away(9, 8);
            x.drop(0);
            x.add(7, RING, 1, 0);
            wayIs(check, x, 2, 7, 7);
        });
    }

    // ---- distance

    private static void distances(Tests tests) {
        tests.put("promise 27: distance, 0 if all are at their places", check -> {
            DanceFigures x = with(REVERSE, 0, 9, REVERSE, 0, 9, TURN, 5, 3);
            check.same("at first", x.distance(), 0.0);
            x.dance(0, 1, false);
            check.same("faces do not count", x.distance(), 0.0);
        });
        tests.put("promise 27: distance, from 0 to 5 places each, along the shorter way", check -> {
            double[] due = {1.0, 2.0, 3.0, 4.0, 5.0, 4.0, 3.0, 2.0, 1.0};
            for (int a = 1; a <= 9; a++) {
                DanceFigures x = with(RING, a, 0);
                x.dance(0, 1, false);
                check.same("all by " + a, x.distance(), due[a - 1]);
            }
        });
        tests.put("promise 27: distance, 5, the farthest", check -> {
            DanceFigures x = with(RING, 5, 0);
            x.dance(0, 1, false);
            check.same("distance", x.distance(), 5.0);
        });
        tests.put("promise 27: distance, 9 and 0 are one place apart", check -> {
            DanceFigures x = with(SWAP, 0, 9);
            x.dance(0, 1, false);
            check.same("one each", x.distance(), 0.2);
        });
        tests.put("promise 27: distance, two dancers by 1 to 9 places", check -> {
            double[] due = {0.2, 0.4, 0.6, 0.8, 1.0, 0.8, 0.6, 0.4, 0.2};
            for (int b = 1; b <= 9; b++) {
                DanceFigures x = with(SWAP, 0, b);
                x.dance(0, 1, false);
                check.same("0 and " + b, x.distance(), due[b - 1]);
            }
        });
    }
}
