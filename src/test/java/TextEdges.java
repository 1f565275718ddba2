/** The boundary cases of the text, of scripts and of their runs. */
final class TextEdges extends Basics {
    private TextEdges() {
    }

    static void addTo(Tests tests) {
        lengths(tests);
        signs(tests);
        calls(tests);
        blanks(tests);
        faults(tests);
        runs(tests);
        stops(tests);
    }

    private static String often(String part, int times) {
        return part.repeat(times);
    }

    // ---- append and clearText

    private static void lengths(Tests tests) {
        tests.put("text: empty at first", check -> {
            DanceFigures x = new DanceFigures();
            check.same("length", x.count(5), 0);
            check.same("cleared", x.clearText(), 0);
        });
        tests.put("text: at most 80 characters", check -> {
            DanceFigures x = new DanceFigures();
            write(x, often("A", 79));
            check.same("the 80th", x.append('B'), 80);
            check.same("the 81st", x.append('C'), TOO_MANY);
            check.same("length", x.count(5), 80);
        });
        tests.put("promise 8: append returns the length, 1 to 80", check -> {
            DanceFigures x = new DanceFigures();
            for (int due = 1; due <= 80; due++) {
                check.same("append", x.append(' '), due);
                check.same("length", x.count(5), due);
            }
        });
        tests.put("promise 8: append, characters from 32", check -> {
            DanceFigures x = new DanceFigures();
            check.same("32", x.append(32), 1);
            for (int character : new int[] {31, 10, 0, -1, LOWEST}) {
                check.same("append(" + character + ")", x.append(character), BAD_VALUE);
            }
        });
        tests.put("promise 8: append, characters to 126", check -> {
            DanceFigures x = new DanceFigures();
            check.same("126", x.append(126), 1);
            for (int character : new int[] {127, 128, 256 + 65, 65536 + 65, HIGHEST}) {
                check.same("append(" + character + ")", x.append(character), BAD_VALUE);
            }
        });
        tests.put("promise 9: clearText, of the empty text", check -> {
            DanceFigures x = new DanceFigures();
            check.same("at first", x.clearText(), 0);
            write(x, "A");
            check.same("of one character", x.clearText(), 1);
            check.same("again", x.clearText(), 0);
        });
        tests.put("promise 9: clearText, of the full text, which then has room for 80", check -> {
            DanceFigures x = new DanceFigures();
            write(x, often("x", 80));
            check.same("full", x.clearText(), 80);
            check.same("empty", x.count(5), 0);
            write(x, "A " + often("B ", 38) + "C'");
            check.same("full again", x.append('x'), TOO_MANY);
            check.same("nothing of the old text is left", x.fault(), NONE);
        });
        tests.put("promise 9: clearText, a shorter text has nothing behind it", check -> {
            DanceFigures x = new DanceFigures();
            write(x, "A2' B");
            write(x, "A");
            check.same("complete", x.fault(), NONE);
            check.same("one call", x.run(), 1);
            check.same("length", x.count(5), 1);
        });
    }

    // ---- what a script is

    private static void faultIs(Check check, String text, int due) {
        DanceFigures x = new DanceFigures();
        write(x, text);
        check.same("fault of \"" + text + "\"", x.fault(), due);
        if (due == NONE) {
            check.holds("\"" + text + "\" can be run", x.run() > 0);
        } else {
            check.same("run of \"" + text + "\"", x.run(), -100 - due);
        }
    }

    private static void signs(Tests tests) {
        tests.put("text: a figure is a letter from A", check -> {
            faultIs(check, "A", NONE);
            faultIs(check, "@", 0);
            faultIs(check, "B @", 2);
        });
        tests.put("text: a figure is a letter to H", check -> {
            faultIs(check, "H", NONE);
            faultIs(check, "I", 0);
            faultIs(check, "B I", 2);
        });
        tests.put("text: a figure is no small letter", check -> {
            faultIs(check, "a", 0);
            faultIs(check, "B h", 2);
        });
        tests.put("text: A is the figure 0, H the figure 7", check -> {
            DanceFigures x = new DanceFigures();
            for (int figure = 0; figure < 8; figure++) {
                x.add(figure, TURN, figure, 1);
            }
            write(x, "A");
            x.run();
            ringIs(check, x, "0123456789/1000000000");
            write(x, "H");
            x.run();
            ringIs(check, x, "0123456789/1000000100");
            write(x, "B C D E F G");
            x.run();
            ringIs(check, x, "0123456789/1111111100");
        });
        tests.put("text: times is a digit from 2", check -> {
            faultIs(check, "A2", NONE);
            faultIs(check, "A1", 1);
            faultIs(check, "A0", 1);
            faultIs(check, "A/", 1);
        });
        tests.put("text: times is a digit to 9", check -> {
            faultIs(check, "A9", NONE);
            faultIs(check, "A:", 1);
        });
        tests.put("text: times is one digit", check -> {
            faultIs(check, "A22", 2);
            faultIs(check, "A10", 1);
            faultIs(check, "A90", 2);
        });
        tests.put("text: ' is the character 39 alone", check -> {
            faultIs(check, "A'", NONE);
            faultIs(check, "A&", 1);
            faultIs(check, "A(", 1);
            faultIs(check, "A`", 1);
            faultIs(check, "A\"", 1);
        });
    }

    private static void calls(Tests tests) {
        tests.put("text: each digit tells how many times, 2 to 9", check -> {
            for (int times = 2; times <= 9; times++) {
                DanceFigures x = with(RING, 1, 0);
                write(x, "A" + times);
                check.same("one call", x.run(), 1);
                check.same(times + " steps", x.total(1), times);
                check.same("so far", x.dancer(0, 0), times);
            }
        });
        tests.put("text: 1 if times is missing", check -> {
            DanceFigures x = with(RING, 1, 0);
            write(x, "A9 A");
            check.same("two calls", x.run(), 2);
            check.same("ten steps", x.total(1), 10);
        });
        tests.put("text: ' means backwards, for its own call alone", check -> {
            DanceFigures x = with(RING, 1, 0);
            write(x, "A'");
            x.run();
            check.same("one back", x.at(0), 1);
            write(x, "A A3' A");
            x.run();
            check.same("one back again", x.at(0), 2);
        });
        tests.put("text: ' at most once", check -> {
            faultIs(check, "A''", 2);
            faultIs(check, "A2''", 3);
        });
        tests.put("text: times is in front of '", check -> {
            faultIs(check, "A2'", NONE);
            faultIs(check, "A'2", 2);
        });
        tests.put("text: times and ' are behind a figure", check -> {
            faultIs(check, "2", 0);
            faultIs(check, "'", 0);
            faultIs(check, "A 2", 2);
            faultIs(check, "A '", 2);
        });
    }

    private static void blanks(Tests tests) {
        tests.put("text: a blank between two calls", check -> {
            faultIs(check, "A B", NONE);
            faultIs(check, "AB", 1);
            faultIs(check, "A2B", 2);
            faultIs(check, "A'B", 2);
            faultIs(check, "A!B", 1);
        });
        tests.put("text: one blank between two calls, not two", check -> {
            faultIs(check, "A  B", 2);
            faultIs(check, "A2  B", 3);
            faultIs(check, "A'  B", 3);
        });
        tests.put("text: no blank in front of the first call", check -> {
            faultIs(check, " ", 0);
            faultIs(check, " A", 0);
        });
        tests.put("text: no blank inside a call", check -> {
            faultIs(check, "A 2", 2);
            faultIs(check, "A2 '", 3);
        });
        tests.put("text: no blank behind the last call, there another one is due", check -> {
            faultIs(check, "A ", 2);
            faultIs(check, "A9' ", 4);
        });
    }

    private static void faults(Tests tests) {
        tests.put("text: the fault of the empty text is 0, its length", check -> {
            DanceFigures x = new DanceFigures();
            check.same("at first", x.fault(), 0);
            write(x, "A");
            x.clearText();
            check.same("cleared", x.fault(), 0);
        });
        tests.put("text: NONE of the shortest script", check -> faultIs(check, "A", NONE));
        tests.put("text: NONE of a script of 80 characters", check -> {
            faultIs(check, often("A ", 39) + "A'", NONE);
            faultIs(check, often("H9' ", 19) + "H9 H", NONE);
        });
        tests.put("text: the fault of the first character is 0", check -> {
            faultIs(check, "?A B", 0);
            faultIs(check, "~", 0);
        });
        tests.put("text: the fault of the last character of 80 is 79", check -> {
            faultIs(check, often("A ", 39) + "AA", 79);
            faultIs(check, often("A ", 39) + "A1", 79);
        });
        tests.put("text: the fault of 80 characters that are not complete is 80", check -> {
            // a longer script could begin so, though no text can be longer
            faultIs(check, often("A ", 40), 80);
            faultIs(check, often("B2' ", 20), 80);
        });
        tests.put("text: the first of several faults is told", check -> {
            faultIs(check, "A1 B1", 1);
            faultIs(check, "A  ", 2);
            faultIs(check, "A x y ", 2);
            faultIs(check, often("A", 80), 1);
        });
        tests.put("text: a script may begin so, as long as another character could follow", check -> {
            DanceFigures x = new DanceFigures();
            int[] due = {NONE, NONE, NONE, 4, NONE, 6, NONE, NONE};
            String text = "A2' B C'";
            for (int i = 0; i < text.length(); i++) {
                x.append(text.charAt(i));
                check.same("fault of its first " + (i + 1), x.fault(), due[i]);
            }
        });
    }

    // ---- run

    private static void runs(Tests tests) {
        tests.put("promise 11: run, -100 of the empty text", check -> {
            DanceFigures x = new DanceFigures();
            check.same("run", x.run(), -100);
            check.same("no action", x.count(4), 0);
        });
        tests.put("promise 11: run, -180 of 80 characters that are not complete", check -> {
            DanceFigures x = with(TURN, 0, 1);
            write(x, often("A ", 40));
            check.same("run", x.run(), -180);
            check.same("nothing was danced", x.total(0), 0);
            ringIs(check, x, HOME);
        });
        tests.put("promise 11: run, nothing in front of the fault is carried out", check -> {
            DanceFigures x = with(TURN, 0, 1);
            write(x, "A A A1");
            check.same("run", x.run(), -105);
            check.same("nothing was danced", x.total(0), 0);
            ringIs(check, x, HOME);
            check.same("no action more", x.count(4), 1);
        });
        tests.put("promise 11: run, one call, the fewest of a script", check -> {
            DanceFigures x = with(TURN, 0, 1);
            write(x, "A");
            check.same("run", x.run(), 1);
            ringIs(check, x, "0123456789/1000000000");
        });
        tests.put("promise 11: run, 40 calls, the most of a script", check -> {
            DanceFigures x = with(RING, 3, 0);
            write(x, often("A ", 39) + "A'");
            check.same("run", x.run(), 40);
            check.same("calls", x.total(0), 40);
            check.same("steps", x.total(1), 40);
            check.same("38 times 3 places on", x.dancer(0, 0), 4);
        });
        tests.put("promise 11: run, a figure without moves is a call too", check -> {
            DanceFigures x = new DanceFigures();
            write(x, "A H9'");
            check.same("run", x.run(), 2);
            check.same("calls", x.total(0), 2);
            check.same("steps", x.total(1), 0);
        });
        tests.put("promise 11: run does not change the text", check -> {
            DanceFigures x = with(TURN, 0, 1);
            write(x, "A2");
            x.run();
            check.same("length", x.count(5), 2);
            check.same("fault", x.fault(), NONE);
            check.same("again", x.run(), 1);
            ringIs(check, x, HOME);
        });
    }

    /** A and C part nobody; B parts 1 and 2 when they are at home, but not one place on. */
    private static DanceFigures dancersForStops() {
        DanceFigures x = with(RING, 1, 0);
        put(x, 1, SWAP, 0, 1);
        put(x, 2, TURN, 5, 1);
        x.hold(1, 2);
        return x;
    }

    private static void stops(Tests tests) {
        tests.put("promise 11: run, 0 if the first call is not possible", check -> {
            DanceFigures x = dancersForStops();
            write(x, "B C A");
            check.same("run", x.run(), 0);
            ringIs(check, x, HOME);
            check.same("calls", x.total(0), 0);
        });
        tests.put("promise 11: run is one action, even if no call is carried out", check -> {
            DanceFigures x = with(SWAP, 0, 1);
            x.hold(1, 2);
            write(x, "A A");
            check.same("run", x.run(), 0);
            check.same("one state more", x.count(4), 3);
            check.same("undone", x.undo(), 2);
            check.same("the hold is there", x.count(2), 1);
        });
        tests.put("promise 11: run is one action, if all calls are carried out", check -> {
            DanceFigures x = with(RING, 1, 0);
            write(x, "A A A");
            x.run();
            check.same("two states", x.count(4), 2);
            check.same("undone", x.undo(), 1);
            ringIs(check, x, HOME);
            check.same("no calls", x.total(0), 0);
        });
        tests.put("promise 11: run, up to the last call, if that is not possible", check -> {
            DanceFigures x = dancersForStops();
            write(x, "A C A' B");
            check.same("run", x.run(), 3);
            ringIs(check, x, "0123456789/0000100000");
            check.same("calls", x.total(0), 3);
            check.same("steps", x.total(1), 3);
        });
        tests.put("promise 11: run, nothing behind the first call that is not possible", check -> {
            DanceFigures x = dancersForStops();
            write(x, "C B A B C");
            check.same("run", x.run(), 1);
            ringIs(check, x, "0123456789/0000010000");
        });
        tests.put("promise 11: run, a call is all done or not at all", check -> {
            DanceFigures x = dancersForStops();
            x.add(3, TURN, 9, 1);
            x.add(3, CALL, 1, 0);
            write(x, "C D");
            check.same("run", x.run(), 1);
            check.same("the turn of D is not made", x.dancer(9, 1), 0);
            check.same("steps", x.total(1), 1);
        });
        tests.put("promise 11: run, each call from where the last one has left the dancers", check -> {
            DanceFigures x = dancersForStops();
            write(x, "A B A9 B");
            check.same("B is possible one place on, and not at home", x.run(), 3);
            check.same("ten places on", x.dancer(1, 0), 1);
        });
    }
}
