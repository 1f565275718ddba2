import java.util.Random;

/** Long runs of drawn calls, the same ones each time, against the reference. */
final class RandomRuns {
    private static final int[] FAR = {Integer.MIN_VALUE, -100, -1, 8, 10, 11, 1000, Integer.MAX_VALUE};
    private static final int CALLS = 512;

    private final Random draw;
    private final Pair pair;
    /** The higher, the more wrong arguments are drawn. */
    private final int wrongPercent;
    /** The number of figures that are filled; with few of them, ways home are found. */
    private final int figures;

    private RandomRuns(Check check, long seed, int wrongPercent, int figures) {
        this.draw = new Random(seed);
        this.pair = new Pair(check, "run " + seed);
        this.wrongPercent = wrongPercent;
        this.figures = figures;
    }

    static void addTo(Tests tests) {
        tests.put("random runs, all calls", check -> runs(check, 1, 60, 5, 8));
        tests.put("random runs, few figures", check -> runs(check, 1000, 60, 3, 3));
        tests.put("random runs, many wrong arguments", check -> runs(check, 2000, 40, 40, 8));
        tests.put("random figures that call others", RandomRuns::nestedFigures);
        tests.put("random ways home", RandomRuns::waysHome);
        tests.put("random texts", RandomRuns::texts);
        tests.put("no call throws, even after the 512th", RandomRuns::farBeyond);
    }

    private static void runs(Check check, int firstSeed, int count, int wrongPercent, int figures) {
        for (int seed = firstSeed; seed < firstSeed + count && check.isClean(); seed++) {
            RandomRuns run = new RandomRuns(check, seed, wrongPercent, figures);
            for (int i = 0; i < CALLS && check.isClean(); i++) {
                run.anyCall();
            }
            run.pair.lookAtAll(seed % 4 == 0);
        }
    }

    private int below(int bound) {
        return draw.nextInt(bound);
    }

    /** Now and then a number that is just or far out of range. */
    private int mostly(int value) {
        return below(100) < wrongPercent ? FAR[below(FAR.length)] : value;
    }

    private int someFigure() {
        return mostly(below(figures));
    }

    private int somePlace() {
        return mostly(below(10));
    }

    private void anyCall() {
        switch (below(11)) {
            case 0:
            case 1:
                addSome();
                break;
            case 2:
                changeHolds();
                break;
            case 3:
            case 4:
                pair.dance(someFigure(), mostly(1 + below(below(4) == 0 ? 9 : 2)), draw.nextBoolean());
                break;
            case 5:
                rareActions();
                break;
            case 6:
                textCalls();
                break;
            case 7:
                historyCalls();
                break;
            case 8:
                pair.figure(someFigure(), mostly(below(8)));
                pair.effect(someFigure(), somePlace(), draw.nextBoolean());
                pair.alike(someFigure(), someFigure());
                pair.commute(someFigure(), someFigure());
                break;
            case 9:
                pair.dancer(somePlace(), mostly(below(3)));
                pair.at(somePlace());
                pair.move(someFigure(), mostly(below(10)), mostly(below(3)));
                pair.count(mostly(below(6)));
                pair.total(mostly(below(3)));
                break;
            default:
                foresight();
                break;
        }
    }

    private void addSome() {
        int figure = someFigure();
        int kind = below(5);
        int low = below(9);
        int high = low + 1 + below(9 - low);
        switch (kind) {
            case 0:
            case 3:
                pair.add(figure, kind, mostly(low), mostly(high));
                break;
            case 1:
                pair.add(figure, kind, somePlace(), mostly(1 + below(3)));
                break;
            case 2:
                pair.add(figure, kind, mostly(1 + below(9)), mostly(0));
                break;
            default:
                pair.add(figure, mostly(kind), mostly(figure > 0 ? below(Math.min(figure, 8)) : 0), mostly(0));
                break;
        }
    }

    private void changeHolds() {
        int place = below(10);
        if (below(4) == 0) {
            pair.release(somePlace());
        } else if (below(4) == 0) {
            pair.hold(somePlace(), somePlace());
        } else {
            pair.hold(mostly(pair.at(place)), mostly(pair.at((place + 1) % 10)));
        }
    }

    private void rareActions() {
        switch (below(8)) {
            case 0:
            case 1:
                pair.goHome();
                break;
            case 2:
            case 3:
                pair.drop(someFigure());
                break;
            default:
                pair.blockedAt(someFigure(), draw.nextBoolean());
                break;
        }
    }

    private void textCalls() {
        if (below(3) == 0) {
            pair.clearText();
        }
        int calls = 1 + below(6);
        for (int i = 0; i < calls; i++) {
            pair.write((i == 0 ? "" : " ") + someCallText());
        }
        if (below(100) < wrongPercent) {
            pair.append(mostly(32 + below(95)));
        }
        pair.fault();
        pair.run();
    }

    private String someCallText() {
        String times = below(3) == 0 ? "" + (2 + below(8)) : "";
        return (char) ('A' + below(figures)) + times + (below(3) == 0 ? "'" : "");
    }

    private void historyCalls() {
        switch (below(6)) {
            case 0:
                pair.save();
                break;
            case 1:
                pair.restore();
                break;
            case 2:
                for (int i = below(7); i >= 0; i--) {
                    pair.undo();
                }
                break;
            default:
                pair.undo();
                break;
        }
    }

    private void foresight() {
        pair.homeIn(someFigure());
        pair.distance();
        pair.blockedAt(someFigure(), draw.nextBoolean());
        if (below(8) == 0) {
            pair.wayHome(mostly(below(5)));
        }
    }

    private static void nestedFigures(Check check) {
        for (int seed = 3000; seed < 3150 && check.isClean(); seed++) {
            RandomRuns run = new RandomRuns(check, seed, 0, 8);
            for (int i = 0; i < 150; i++) {
                int figure = run.below(8);
                if (figure > 0 && run.below(3) > 0) {
                    run.pair.add(figure, 4, run.below(figure), 0);
                } else if (run.below(6) == 0) {
                    run.pair.drop(figure);
                } else {
                    run.addSome();
                }
            }
            run.pair.lookAtAll(false);
        }
    }

    /** Short figures from home, so that homeIn and wayHome often find something. */
    private static void waysHome(Check check) {
        int[] found = new int[6];
        for (int seed = 4000; seed < 4300 && check.isClean(); seed++) {
            RandomRuns run = new RandomRuns(check, seed, 0, 8);
            for (int i = 0; i < 10; i++) {
                run.addSome();
            }
            for (int i = 0; i < 1 + seed % 4; i++) {
                run.pair.dance(run.below(8), 1, run.below(4) > 0);
                found[1 + Math.max(-1, run.pair.wayHome(0))]++;
                for (int what = 1; what < 5; what++) {
                    run.pair.wayHome(what);
                }
                for (int f = 0; f < 8; f++) {
                    run.pair.homeIn(f);
                }
            }
        }
        for (int length = 0; length <= 4; length++) {
            check.holds("ways of length " + length + " are among those drawn", found[1 + length] > 10);
        }
    }

    private static void texts(Check check) {
        String signs = "ABH29' ";
        String others = "I1a0@`\"&/:~!@Z";
        for (int seed = 5000; seed < 5400 && check.isClean(); seed++) {
            RandomRuns run = new RandomRuns(check, seed, 0, 8);
            for (int i = 0; i < 12; i++) {
                String from = run.below(12) == 0 ? others : signs;
                run.pair.append(from.charAt(run.below(from.length())));
                run.pair.fault();
                run.pair.run();
            }
        }
    }

    private static void farBeyond(Check check) {
        for (int seed = 6000; seed < 6010 && check.isClean(); seed++) {
            RandomRuns run = new RandomRuns(check, seed, 10, 8);
            for (int i = 0; i < 8 * CALLS && check.isClean(); i++) {
                run.anyCall();
            }
        }
    }
}
