/** What the tests share: the codes by their numbers, and looks at an object. */
abstract class Basics {
    static final int NO_SUCH = -1;
    static final int BAD_VALUE = -2;
    static final int TOO_MANY = -3;
    static final int NOT_POSSIBLE = -4;
    static final int NONE = -5;
    static final int SWAP = 0;
    static final int TURN = 1;
    static final int RING = 2;
    static final int REVERSE = 3;
    static final int CALL = 4;

    static final int[] NO_FIGURES = {-1, 8, 9, Integer.MIN_VALUE, Integer.MAX_VALUE};
    static final int[] NO_PLACES = {-1, 10, 11, Integer.MIN_VALUE, Integer.MAX_VALUE};
    static final int LOWEST = Integer.MIN_VALUE;
    static final int HIGHEST = Integer.MAX_VALUE;
    static final String HOME = "0123456789/0000000000";

    /** The text becomes this one. */
    static void write(DanceFigures x, String text) {
        x.clearText();
        for (int i = 0; i < text.length(); i++) {
            x.append(text.charAt(i));
        }
    }

    /** Adds moves to a figure: three numbers each, kind, a and b. */
    static void put(DanceFigures x, int figure, int... numbers) {
        for (int i = 0; i < numbers.length; i += 3) {
            x.add(figure, numbers[i], numbers[i + 1], numbers[i + 2]);
        }
    }

    static void putOften(DanceFigures x, int often, int figure, int... numbers) {
        for (int i = 0; i < often; i++) {
            put(x, figure, numbers);
        }
    }

    /** A new object whose figure 0 has these moves. */
    static DanceFigures with(int... numbers) {
        DanceFigures x = new DanceFigures();
        put(x, 0, numbers);
        return x;
    }

    /** A new object whose figure 3 has so many steps, up to 120, in up to 7 moves. */
    static DanceFigures withSteps(int steps) {
        DanceFigures x = new DanceFigures();
        putOften(x, 10, 0, TURN, 0, 1);
        putOften(x, 6, 1, CALL, 0, 0);
        putOften(x, steps % 10, 2, TURN, 0, 1);
        putOften(x, steps / 60, 3, CALL, 1, 0);
        putOften(x, steps % 60 / 10, 3, CALL, 0, 0);
        putOften(x, steps % 10 > 0 ? 1 : 0, 3, CALL, 2, 0);
        return x;
    }

    /** The dancers at the places 0 to 9, and their faces behind a slash. */
    static String ring(DanceFigures x) {
        StringBuilder dancers = new StringBuilder();
        StringBuilder faces = new StringBuilder("/");
        for (int place = 0; place < 10; place++) {
            dancers.append(x.at(place));
            faces.append(x.dancer(x.at(place), 1));
        }
        return dancers.append(faces).toString();
    }

    static void ringIs(Check check, DanceFigures x, String due) {
        String got = ring(x);
        check.holds("the ring is " + due + ", found " + got, got.equals(due));
    }

    /** Does the figure 0 once and tells the ring. */
    static void danceLeads(Check check, DanceFigures x, boolean isBackwards, String due) {
        x.dance(0, 1, isBackwards);
        ringIs(check, x, due);
    }

    /** All that the state consists of, in some hundred calls: objects are promised for 512. */
    static String state(DanceFigures x) {
        StringBuilder all = new StringBuilder(ring(x)).append(" holds");
        for (int dancer = 0; dancer < 10; dancer++) {
            all.append(' ').append(x.dancer(dancer, 2));
        }
        for (int figure = 0; figure < 8; figure++) {
            all.append(" figure ").append(figure).append(':').append(x.figure(figure, 1));
            int moves = x.figure(figure, 0);
            for (int move = 0; move < moves; move++) {
                all.append(' ').append(x.move(figure, move, 0)).append(x.move(figure, move, 1))
                        .append(x.move(figure, move, 2));
            }
        }
        all.append(" totals");
        for (int what = 0; what < 3; what++) {
            all.append(' ').append(x.total(what));
        }
        return all.toString();
    }

    static void statesAreSame(Check check, String when, DanceFigures x, DanceFigures other) {
        String got = state(x);
        String due = state(other);
        check.holds(when + " the state is " + due + ", found " + got, got.equals(due));
    }
}
