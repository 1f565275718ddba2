/** The program and the reference side by side: each call is made to both, and compared. */
final class Pair {
    private final DanceFigures program = new DanceFigures();
    private final Reference reference = new Reference();
    private final Check check;
    private final String run;

    Pair(Check check, String run) {
        this.check = check;
        this.run = run;
    }

    private void same(String call, long got, long due) {
        if (got != due) {
            check.same(run + ": " + call, got, due);
        } else {
            check.same(call, got, due);
        }
    }

    int add(int figure, int kind, int a, int b) {
        int got = program.add(figure, kind, a, b);
        same("add(" + figure + ", " + kind + ", " + a + ", " + b + ")", got,
                reference.add(figure, kind, a, b));
        return got;
    }

    void drop(int figure) {
        same("drop(" + figure + ")", program.drop(figure), reference.drop(figure));
    }

    void hold(int dancer, int other) {
        same("hold(" + dancer + ", " + other + ")", program.hold(dancer, other),
                reference.hold(dancer, other));
    }

    void release(int dancer) {
        same("release(" + dancer + ")", program.release(dancer), reference.release(dancer));
    }

    int dance(int figure, int times, boolean isBackwards) {
        int got = program.dance(figure, times, isBackwards);
        same("dance(" + figure + ", " + times + ", " + isBackwards + ")", got,
                reference.dance(figure, times, isBackwards));
        return got;
    }

    void goHome() {
        same("goHome()", program.goHome(), reference.goHome());
    }

    void append(int character) {
        same("append(" + character + ")", program.append(character), reference.append(character));
    }

    void write(String text) {
        for (int i = 0; i < text.length(); i++) {
            append(text.charAt(i));
        }
    }

    void clearText() {
        same("clearText()", program.clearText(), reference.clearText());
    }

    void fault() {
        same("fault()", program.fault(), reference.fault());
    }

    int run() {
        int got = program.run();
        same("run()", got, reference.run());
        return got;
    }

    void undo() {
        same("undo()", program.undo(), reference.undo());
    }

    void save() {
        same("save()", program.save(), reference.save());
    }

    void restore() {
        same("restore()", program.restore(), reference.restore());
    }

    void dancer(int dancer, int what) {
        same("dancer(" + dancer + ", " + what + ")", program.dancer(dancer, what),
                reference.dancer(dancer, what));
    }

    int at(int place) {
        int got = program.at(place);
        same("at(" + place + ")", got, reference.at(place));
        return got;
    }

    void move(int figure, int move, int what) {
        same("move(" + figure + ", " + move + ", " + what + ")", program.move(figure, move, what),
                reference.move(figure, move, what));
    }

    void figure(int figure, int what) {
        same("figure(" + figure + ", " + what + ")", program.figure(figure, what),
                reference.figure(figure, what));
    }

    void effect(int figure, int place, boolean isFace) {
        same("effect(" + figure + ", " + place + ", " + isFace + ")",
                program.effect(figure, place, isFace), reference.effect(figure, place, isFace));
    }

    void alike(int figure, int other) {
        same("alike(" + figure + ", " + other + ")", program.alike(figure, other),
                reference.alike(figure, other));
    }

    void commute(int figure, int other) {
        same("commute(" + figure + ", " + other + ")", program.commute(figure, other),
                reference.commute(figure, other));
    }

    void count(int what) {
        same("count(" + what + ")", program.count(what), reference.count(what));
    }

    void total(int what) {
        same("total(" + what + ")", program.total(what), reference.total(what));
    }

    void blockedAt(int figure, boolean isBackwards) {
        same("blockedAt(" + figure + ", " + isBackwards + ")",
                program.blockedAt(figure, isBackwards), reference.blockedAt(figure, isBackwards));
    }

    int homeIn(int figure) {
        int got = program.homeIn(figure);
        same("homeIn(" + figure + ")", got, reference.homeIn(figure));
        return got;
    }

    int wayHome(int what) {
        int got = program.wayHome(what);
        same("wayHome(" + what + ")", got, reference.wayHome(what));
        return got;
    }

    void distance() {
        check.same(run + ": distance()", program.distance(), reference.distance());
    }

    /** All that can be seen of the state; wayHome only if it is wanted, as it takes long. */
    void lookAtAll(boolean isWayWanted) {
        for (int d = 0; d < 10; d++) {
            at(d);
            for (int what = 0; what < 3; what++) {
                dancer(d, what);
            }
        }
        for (int what = 0; what < 6; what++) {
            count(what);
        }
        for (int what = 0; what < 3; what++) {
            total(what);
        }
        fault();
        distance();
        for (int f = 0; f < 8; f++) {
            lookAtFigure(f);
        }
        for (int what = 0; isWayWanted && what < 5; what++) {
            wayHome(what);
        }
    }

    private void lookAtFigure(int f) {
        for (int what = 0; what < 8; what++) {
            figure(f, what);
        }
        for (int p = 0; p < 10; p++) {
            effect(f, p, false);
            effect(f, p, true);
            for (int what = 0; what < 3; what++) {
                move(f, p, what);
            }
        }
        for (int other = 0; other < 8; other++) {
            alike(f, other);
            commute(f, other);
        }
        blockedAt(f, false);
        blockedAt(f, true);
        homeIn(f);
    }
}
