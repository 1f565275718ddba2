/** The boundary cases of figures: their moves, steps and calls, and what is asked about them. */
final class FigureEdges extends Basics {
    private FigureEdges() {
    }

    static void addTo(Tests tests) {
        moves(tests);
        room(tests);
        callers(tests);
        drops(tests);
        asksForMoves(tests);
        numbers(tests);
        masks(tests);
        pairs(tests);
    }

    // ---- the moves of a figure

    private static void moves(Tests tests) {
        tests.put("figures: there are 8 figures, 0 to 7", check -> {
            check.same("the first one", new DanceFigures().add(0, TURN, 0, 1), 1);
            check.same("the last one", new DanceFigures().add(7, TURN, 0, 1), 1);
            check.same("one less", new DanceFigures().add(-1, TURN, 0, 1), NO_SUCH);
            check.same("one more", new DanceFigures().add(8, TURN, 0, 1), NO_SUCH);
        });
        tests.put("figures: none has moves at first", check -> {
            DanceFigures x = new DanceFigures();
            for (int figure = 0; figure < 8; figure++) {
                check.same("moves of " + figure, x.figure(figure, 0), 0);
                check.same("steps of " + figure, x.figure(figure, 1), 0);
                check.same("the first move of " + figure, x.move(figure, 0, 0), NO_SUCH);
            }
        });
        tests.put("figures: up to 10 moves", FigureEdges::tenMoves);
        tests.put("figures: up to 10 moves, calls without steps among them", FigureEdges::tenCalls);
        tests.put("figures: full ones side by side keep their own moves", FigureEdges::allFull);
        tests.put("figures: the moves stand in order, from the first to the tenth", FigureEdges::movesInOrder);
        tests.put("figures: only figures with lower numbers can be called", FigureEdges::lowerNumbers);
        tests.put("promise 2: add returns the number of moves, 1 to 10", check -> {
            DanceFigures x = new DanceFigures();
            for (int due = 1; due <= 10; due++) {
                check.same("moves", x.add(4, RING, 1, 0), due);
                check.same("the same by figure", x.figure(4, 0), due);
            }
        });
    }

    private static void tenMoves(Check check) {
        for (int figure : new int[] {0, 3, 7}) {
            DanceFigures x = new DanceFigures();
            putOften(x, 9, figure, TURN, 0, 1);
            check.same("the tenth in " + figure, x.add(figure, TURN, 0, 1), 10);
            check.same("the eleventh in " + figure, x.add(figure, TURN, 0, 1), TOO_MANY);
            check.same("there are ten", x.figure(figure, 0), 10);
        }
    }

    private static void tenCalls(Check check) {
        DanceFigures x = new DanceFigures();
        putOften(x, 9, 7, CALL, 6, 0);
        check.same("the tenth call", x.add(7, CALL, 6, 0), 10);
        check.same("the eleventh call", x.add(7, CALL, 6, 0), TOO_MANY);
        check.same("nor a step", x.add(7, SWAP, 0, 1), TOO_MANY);
        check.same("there are ten", x.figure(7, 0), 10);
        check.same("without steps", x.figure(7, 1), 0);
    }

    private static void allFull(Check check) {
        DanceFigures x = new DanceFigures();
        for (int figure = 0; figure < 8; figure++) {
            for (int move = 0; move < 10; move++) {
                check.same("add to " + figure, x.add(figure, TURN, move, 1 + figure % 3), move + 1);
            }
        }
        for (int figure = 0; figure < 8; figure++) {
            for (int move = 0; move < 10; move++) {
                check.same("a of move " + move + " of " + figure, x.move(figure, move, 1), move);
                check.same("b of move " + move + " of " + figure, x.move(figure, move, 2), 1 + figure % 3);
            }
            check.same("steps of " + figure, x.figure(figure, 1), 10);
        }
    }

    private static void movesInOrder(Check check) {
        DanceFigures x = with(SWAP, 0, 1, SWAP, 1, 2, SWAP, 2, 3, SWAP, 3, 4, SWAP, 4, 5,
                SWAP, 5, 6, SWAP, 6, 7, SWAP, 7, 8, SWAP, 8, 9, TURN, 9, 1);
        danceLeads(check, x, false, "1234567890/0000000001");
        check.same("the first move", x.move(0, 0, 1), 0);
        check.same("the tenth move", x.move(0, 9, 1), 9);
    }

    private static void lowerNumbers(Check check) {
        for (int figure = 0; figure < 8; figure++) {
            DanceFigures x = new DanceFigures();
            check.same("itself, " + figure, x.add(figure, CALL, figure, 0), BAD_VALUE);
            check.same("the next one, " + figure, x.add(figure, CALL, figure + 1, 0), BAD_VALUE);
            check.same("the one below, " + figure, x.add(figure, CALL, figure - 1, 0),
                    figure == 0 ? BAD_VALUE : 1);
        }
    }

    // ---- at most 120 steps

    private static void room(Tests tests) {
        tests.put("figures: 120 steps, reached by a step", check -> {
            DanceFigures x = withSteps(119);
            check.same("the 120th", x.add(3, SWAP, 0, 1) > 0 ? 1 : 0, 1);
            check.same("steps", x.figure(3, 1), 120);
            check.same("the 121st", x.add(3, SWAP, 0, 1), TOO_MANY);
            check.same("steps still", x.figure(3, 1), 120);
        });
        tests.put("figures: 120 steps, reached by a call", check -> {
            DanceFigures x = withSteps(110);
            check.same("ten more", x.add(3, CALL, 0, 0) > 0 ? 1 : 0, 1);
            check.same("steps", x.figure(3, 1), 120);
            DanceFigures y = withSteps(111);
            check.same("ten more are 121", y.add(3, CALL, 0, 0), TOO_MANY);
            check.same("steps still", y.figure(3, 1), 111);
        });
        tests.put("figures: 120 steps of one that calls it directly", check -> {
            DanceFigures x = withSteps(119);
            x.add(4, CALL, 3, 0);
            check.same("119 and 1", x.add(2, SWAP, 0, 1), 10);
            check.same("steps of the caller", x.figure(3, 1), 120);
            x.drop(2);
            x.add(3, SWAP, 0, 1);
            check.same("120 and 1", x.add(2, SWAP, 0, 1), TOO_MANY);
            check.same("steps of the caller still", x.figure(3, 1), 120);
        });
        tests.put("figures: 120 steps of one that calls it by other figures", FigureEdges::roomOfCallers);
        tests.put("figures: 120 steps of one that calls it twice", FigureEdges::roomOfTwoCalls);
        tests.put("figures: 120 steps of 7, which calls 0 by all the others", check -> {
            DanceFigures x = new DanceFigures();
            for (int figure = 1; figure < 8; figure++) {
                x.add(figure, CALL, figure - 1, 0);
            }
            putOften(x, 9, 7, CALL, 6, 0);
            putOften(x, 5, 6, CALL, 5, 0);
            check.same("60 steps", x.add(0, SWAP, 0, 1), 1);
            check.same("120 steps", x.add(0, SWAP, 0, 1), 2);
            check.same("steps of 7", x.figure(7, 1), 120);
            check.same("180 steps", x.add(0, SWAP, 0, 1), TOO_MANY);
            check.same("the figure itself has room", x.figure(0, 1), 2);
        });
        tests.put("figures: a call in a called figure can be too long for its caller", check -> {
            DanceFigures x = withSteps(110);
            x.add(4, CALL, 3, 0);
            x.add(4, CALL, 2, 0);
            check.same("110 and 10", x.add(2, CALL, 0, 0), 1);
            check.same("steps of the caller", x.figure(4, 1), 120);
            check.same("120 and 10", x.add(2, CALL, 0, 0), TOO_MANY);
        });
        tests.put("figures: one of 120 steps takes a call without steps", check -> {
            DanceFigures x = withSteps(120);
            check.same("moves before", x.figure(3, 0), 2);
            check.same("a call of an empty figure", x.add(3, CALL, 2, 0), 3);
            check.same("steps", x.figure(3, 1), 120);
        });
        tests.put("figures: one of 120 steps can be called, but by nothing more", check -> {
            DanceFigures x = withSteps(120);
            check.same("called", x.add(7, CALL, 3, 0), 1);
            check.same("called twice", x.add(7, CALL, 3, 0), TOO_MANY);
            check.same("a step besides", x.add(7, TURN, 9, 1), TOO_MANY);
            check.same("an empty one besides", x.add(7, CALL, 6, 0), 2);
        });
        tests.put("figures: of 120 steps one may be dropped, and one added again", check -> {
            DanceFigures x = withSteps(119);
            put(x, 3, SWAP, 0, 1);
            check.same("no room", x.add(3, SWAP, 0, 1), TOO_MANY);
            int moves = x.drop(3);
            check.same("room again", x.add(3, RING, 9, 0), moves + 1);
            check.same("steps", x.figure(3, 1), 120);
        });
        tests.put("figures: other figures than callers do not matter for the room", check -> {
            DanceFigures x = withSteps(120);
            check.same("a higher one", x.add(7, SWAP, 0, 1), 1);
            check.same("a lower one that is not called", x.add(2, SWAP, 0, 1), 1);
            check.same("one that calls a part of it", x.add(4, CALL, 1, 0), 1);
        });
    }

    private static void roomOfCallers(Check check) {
        DanceFigures x = withSteps(119);
        x.add(5, CALL, 3, 0);
        x.add(7, CALL, 5, 0);
        check.same("119 and 1", x.add(2, TURN, 1, 1), 10);
        check.same("steps of the last one", x.figure(7, 1), 120);
        DanceFigures y = withSteps(119);
        y.add(5, CALL, 3, 0);
        y.add(7, CALL, 5, 0);
        y.add(7, SWAP, 0, 1);
        check.same("120 and 1", y.add(2, TURN, 1, 1), TOO_MANY);
        check.same("the last one alone is full", y.figure(3, 1), 119);
        check.same("a step for the one between", y.add(5, TURN, 1, 1), TOO_MANY);
    }

    private static void roomOfTwoCalls(Check check) {
        DanceFigures x = withSteps(118);
        put(x, 4, CALL, 3, 0);
        put(x, 6, CALL, 4, 0, CALL, 5, 0, CALL, 5, 0);
        check.same("118 and 2", x.add(5, SWAP, 0, 1), 1);
        check.same("steps", x.figure(6, 1), 120);
        check.same("120 and 2", x.add(5, SWAP, 0, 1), TOO_MANY);
        DanceFigures y = withSteps(119);
        put(y, 6, CALL, 3, 0, CALL, 5, 0, CALL, 5, 0);
        check.same("119 and 2", y.add(5, SWAP, 0, 1), TOO_MANY);
        check.same("steps of the caller still", y.figure(6, 1), 119);
    }

    // ---- figures that call it change with it

    /** The figure 0 turns the first dancer; 1 calls it, and 7 calls 1. */
    private static DanceFigures chain() {
        DanceFigures x = with(TURN, 0, 1);
        put(x, 1, CALL, 0, 0);
        put(x, 7, CALL, 1, 0);
        return x;
    }

    private static void chainIs(Check check, DanceFigures x, int steps, int quarters) {
        for (int figure : new int[] {0, 1, 7}) {
            check.same("steps of " + figure, x.figure(figure, 1), steps);
            check.same("quarters of " + figure, x.effect(figure, 0, true), quarters);
        }
    }

    private static void callers(Tests tests) {
        tests.put("figures: callers change with it by add", check -> {
            DanceFigures x = chain();
            x.add(0, TURN, 0, 2);
            chainIs(check, x, 2, 3);
            check.same("steps that are made", x.dance(7, 1, false), 2);
        });
        tests.put("figures: callers change with it by drop", check -> {
            DanceFigures x = chain();
            x.drop(0);
            chainIs(check, x, 0, 0);
            check.same("steps that are made", x.dance(7, 1, false), 0);
        });
        tests.put("figures: callers change with it by undo", check -> {
            DanceFigures x = chain();
            x.add(0, TURN, 0, 2);
            x.undo();
            chainIs(check, x, 1, 1);
            check.same("steps that are made", x.dance(7, 1, false), 1);
        });
        tests.put("figures: callers change with it by restore", check -> {
            DanceFigures x = chain();
            x.save();
            x.add(0, TURN, 0, 2);
            x.restore();
            chainIs(check, x, 1, 1);
            check.same("steps that are made", x.dance(7, 1, false), 1);
        });
        tests.put("figures: the deepest row of calls, from 7 to 0", check -> {
            DanceFigures x = with(SWAP, 0, 9, TURN, 0, 1);
            for (int figure = 1; figure < 8; figure++) {
                x.add(figure, CALL, figure - 1, 0);
            }
            check.same("steps", x.figure(7, 1), 2);
            check.same("they are made", x.dance(7, 1, false), 2);
            ringIs(check, x, "9123456780/1000000000");
        });
    }

    // ---- drop and move

    private static void drops(Tests tests) {
        tests.put("promise 3: drop, figures are 0 to 7", check -> {
            DanceFigures x = with(SWAP, 0, 1);
            x.add(7, SWAP, 0, 1);
            check.same("the first one", x.drop(0), 0);
            check.same("the last one", x.drop(7), 0);
            for (int figure : NO_FIGURES) {
                check.same("drop(" + figure + ")", x.drop(figure), NO_SUCH);
            }
        });
        tests.put("promise 3: drop, NOT_POSSIBLE without moves", check -> {
            DanceFigures x = with(SWAP, 0, 1);
            check.same("one that never had any", x.drop(7), NOT_POSSIBLE);
            check.same("the only move", x.drop(0), 0);
            check.same("one that has none any more", x.drop(0), NOT_POSSIBLE);
        });
        tests.put("promise 3: drop, from the full figure to the empty one", check -> {
            DanceFigures x = new DanceFigures();
            putOften(x, 10, 3, RING, 1, 0);
            for (int due = 9; due >= 0; due--) {
                check.same("moves", x.drop(3), due);
                check.same("steps", x.figure(3, 1), due);
            }
        });
        tests.put("promise 3: drop removes the last move, not the first one", check -> {
            DanceFigures x = with(SWAP, 0, 1, TURN, 5, 2);
            x.drop(0);
            check.same("the first move", x.move(0, 0, 0), SWAP);
            check.same("the second move", x.move(0, 1, 0), NO_SUCH);
        });
    }

    private static void asksForMoves(Tests tests) {
        tests.put("promise 17: move, figures are 0 to 7", check -> {
            DanceFigures x = with(SWAP, 2, 3);
            x.add(7, TURN, 4, 3);
            check.same("the first one", x.move(0, 0, 1), 2);
            check.same("the last one", x.move(7, 0, 1), 4);
            for (int figure : NO_FIGURES) {
                check.same("move(" + figure + ")", x.move(figure, 0, 0), NO_SUCH);
            }
        });
        tests.put("promise 17: move, from 0 to the number of moves less 1", check -> {
            DanceFigures x = with(SWAP, 2, 3, RING, 9, 0);
            x.add(1, TURN, 4, 3);
            check.same("the first", x.move(0, 0, 0), SWAP);
            check.same("the last", x.move(0, 1, 0), RING);
            check.same("one less", x.move(0, -1, 0), NO_SUCH);
            check.same("one more", x.move(0, 2, 0), NO_SUCH);
            check.same("one less than the first of the next figure", x.move(1, -1, 0), NO_SUCH);
        });
        tests.put("promise 17: move, of the full figure and of the empty one", check -> {
            DanceFigures x = new DanceFigures();
            putOften(x, 9, 6, TURN, 0, 1);
            x.add(6, TURN, 9, 3);
            check.same("the tenth", x.move(6, 9, 1), 9);
            check.same("the eleventh", x.move(6, 10, 1), NO_SUCH);
            check.same("the highest number", x.move(6, HIGHEST, 1), NO_SUCH);
            check.same("the lowest number", x.move(6, LOWEST, 1), NO_SUCH);
            check.same("the first of the empty figure 7", x.move(7, 0, 1), NO_SUCH);
            check.same("the first of the empty figure 5", x.move(5, 0, 1), NO_SUCH);
        });
        tests.put("promise 17: move, what is 0 to 2", check -> {
            DanceFigures x = with(REVERSE, 8, 9);
            check.same("kind", x.move(0, 0, 0), REVERSE);
            check.same("a", x.move(0, 0, 1), 8);
            check.same("b", x.move(0, 0, 2), 9);
            for (int what : new int[] {-1, 3, LOWEST, HIGHEST}) {
                check.same("what " + what, x.move(0, 0, what), BAD_VALUE);
            }
        });
    }

    // ---- the numbers of a figure

    private static void numbers(Tests tests) {
        tests.put("promise 18: figure, figures are 0 to 7", check -> {
            DanceFigures x = with(SWAP, 0, 1);
            putOften(x, 2, 7, SWAP, 0, 1);
            check.same("the first one", x.figure(0, 0), 1);
            check.same("the last one", x.figure(7, 0), 2);
            for (int figure : NO_FIGURES) {
                check.same("figure(" + figure + ", 0)", x.figure(figure, 0), NO_SUCH);
            }
        });
        tests.put("promise 18: figure, what is 0 to 7", check -> {
            DanceFigures x = with(RING, 1, 0);
            put(x, 1, CALL, 0, 0);
            check.same("the first number", x.figure(0, 0), 1);
            check.same("the last number", x.figure(0, 7), 2);
            for (int what : new int[] {-1, 8, LOWEST, HIGHEST}) {
                check.same("what " + what, x.figure(0, what), BAD_VALUE);
            }
        });
        tests.put("promise 18: 0, moves from 0 to 10", check -> {
            DanceFigures x = new DanceFigures();
            check.same("none", x.figure(2, 0), 0);
            putOften(x, 10, 2, TURN, 0, 1);
            check.same("all", x.figure(2, 0), 10);
        });
        tests.put("promise 18: 1, steps from 0 to 120", check -> {
            check.same("none", withSteps(0).figure(3, 1), 0);
            check.same("one", withSteps(1).figure(3, 1), 1);
            check.same("all", withSteps(120).figure(3, 1), 120);
        });
        tests.put("promise 18: 3, places from which another one is reached, 0 to 10", check -> {
            check.same("none", with(TURN, 0, 1).figure(0, 3), 0);
            check.same("two", with(SWAP, 0, 9).figure(0, 3), 2);
            check.same("nine", with(RING, 1, 0, SWAP, 0, 1).figure(0, 3), 9);
            check.same("all", with(REVERSE, 0, 9).figure(0, 3), 10);
        });
        tests.put("promise 18: 4, places from which the face grows by 1, 2 or 3, 0 to 10", check -> {
            check.same("none", with(RING, 5, 0).figure(0, 4), 0);
            check.same("by 1, 2 and 3", with(TURN, 0, 1, TURN, 5, 2, TURN, 9, 3).figure(0, 4), 3);
            check.same("by 4, which is 0", with(TURN, 0, 1, TURN, 0, 3).figure(0, 4), 0);
            check.same("all", with(REVERSE, 0, 9).figure(0, 4), 10);
        });
        tests.put("promise 18: 5, an odd or an even number of exchanges", FigureEdges::exchanges);
    }

    private static void exchanges(Check check) {
        check.same("none is even", new DanceFigures().figure(0, 5), 0);
        check.same("faces are no exchange", with(TURN, 0, 1).figure(0, 5), 0);
        check.same("one is odd", with(SWAP, 0, 9).figure(0, 5), 1);
        check.same("two are even", with(SWAP, 0, 9, SWAP, 1, 2).figure(0, 5), 0);
        for (int a = 1; a <= 9; a++) {
            check.same("a ring by " + a, with(RING, a, 0).figure(0, 5), a % 2);
        }
        for (int b = 1; b <= 9; b++) {
            check.same("reverse up to " + b, with(REVERSE, 0, b).figure(0, 5), (b + 1) / 2 % 2);
        }
    }

    private static void masks(Tests tests) {
        tests.put("promise 18: 6 and 7, without calls 0", check -> {
            DanceFigures x = with(SWAP, 0, 1);
            for (int figure = 0; figure < 8; figure++) {
                check.same("called by " + figure, x.figure(figure, 6), 0);
                check.same("calling " + figure, x.figure(figure, 7), 0);
            }
        });
        tests.put("promise 18: 6 and 7, bit k stands for the figure k, from 0 to 7", check -> {
            for (int figure = 1; figure < 8; figure++) {
                for (int k = 0; k < figure; k++) {
                    DanceFigures x = new DanceFigures();
                    x.add(figure, CALL, k, 0);
                    check.same(figure + " calls " + k, x.figure(figure, 6), 1 << k);
                    check.same(k + " is called by " + figure, x.figure(k, 7), 1 << figure);
                    check.same("but not it by that one", x.figure(k, 6) + x.figure(figure, 7), 0);
                }
            }
        });
        tests.put("promise 18: 6 and 7, by other figures, all of them", check -> {
            DanceFigures x = new DanceFigures();
            for (int figure = 1; figure < 8; figure++) {
                x.add(figure, CALL, figure - 1, 0);
            }
            for (int figure = 0; figure < 8; figure++) {
                check.same("all below " + figure, x.figure(figure, 6), (1 << figure) - 1);
                check.same("all above " + figure, x.figure(figure, 7), 256 - (2 << figure));
            }
        });
        tests.put("promise 18: 6 and 7, called in two ways is called too", check -> {
            DanceFigures x = new DanceFigures();
            x.add(1, CALL, 0, 0);
            x.add(2, CALL, 0, 0);
            put(x, 3, CALL, 1, 0, CALL, 2, 0);
            put(x, 4, CALL, 1, 0, CALL, 1, 0);
            check.same("by two figures", x.figure(3, 6), 0b111);
            check.same("by the same one twice", x.figure(4, 6), 0b11);
            check.same("who calls 0", x.figure(0, 7), 0b11110);
        });
        tests.put("promise 18: 6 and 7, a call that is dropped, once and again", check -> {
            DanceFigures x = new DanceFigures();
            putOften(x, 2, 7, CALL, 0, 0);
            check.same("twice is no other than once", x.figure(7, 6), 1);
            x.drop(7);
            check.same("it still calls", x.figure(7, 6), 1);
            check.same("it is still called", x.figure(0, 7), 128);
            x.drop(7);
            check.same("it calls no more", x.figure(7, 6), 0);
            check.same("it is called no more", x.figure(0, 7), 0);
        });
    }

    // ---- two figures, or a figure and a place

    private static void pairs(Tests tests) {
        tests.put("promise 19: effect, figures are 0 to 7", check -> {
            DanceFigures x = with(RING, 1, 0);
            x.add(7, RING, 2, 0);
            check.same("the first one", x.effect(0, 0, false), 1);
            check.same("the last one", x.effect(7, 0, false), 2);
            for (int figure : NO_FIGURES) {
                check.same("effect(" + figure + ")", x.effect(figure, 0, false), NO_SUCH);
                check.same("its faces", x.effect(figure, 0, true), NO_SUCH);
            }
        });
        tests.put("promise 19: effect, places are 0 to 9", check -> {
            DanceFigures x = with(REVERSE, 0, 9);
            check.same("the first one", x.effect(0, 0, false), 9);
            check.same("the last one", x.effect(0, 9, false), 0);
            for (int place : NO_PLACES) {
                check.same("effect at " + place, x.effect(0, place, false), NO_SUCH);
                check.same("faces at " + place, x.effect(0, place, true), NO_SUCH);
            }
        });
        tests.put("promise 20: alike, figures are 0 to 7", check -> {
            DanceFigures x = new DanceFigures();
            check.same("the first and the last one", x.alike(0, 7), 1);
            check.same("the last and the first one", x.alike(7, 0), 1);
            for (int figure : NO_FIGURES) {
                check.same("alike(" + figure + ", 0)", x.alike(figure, 0), NO_SUCH);
                check.same("alike(0, " + figure + ")", x.alike(0, figure), NO_SUCH);
            }
        });
        tests.put("promise 20: alike, the first and the last place count, with their faces", check -> {
            for (int place : new int[] {0, 9}) {
                DanceFigures x = with(TURN, place, 3);
                check.same("a face at " + place, x.alike(0, 7), 0);
                x.add(7, TURN, place, 1);
                check.same("another face at " + place, x.alike(0, 7), 0);
                x.add(7, TURN, place, 2);
                check.same("the same face at " + place, x.alike(0, 7), 1);
            }
            check.same("places", with(SWAP, 0, 9).alike(0, 7), 0);
        });
        tests.put("promise 20: alike, a figure is like itself", check -> {
            DanceFigures x = with(RING, 1, 0, TURN, 0, 1);
            check.same("with moves", x.alike(0, 0), 1);
            check.same("without moves", x.alike(7, 7), 1);
        });
        tests.put("promise 20: alike, the effect counts, not the moves", check -> {
            DanceFigures x = with(SWAP, 0, 9, SWAP, 0, 9);
            check.same("two moves and none", x.alike(0, 7), 1);
            put(x, 1, REVERSE, 0, 1);
            put(x, 2, SWAP, 0, 1, TURN, 0, 2, TURN, 1, 2);
            check.same("one step and three", x.alike(1, 2), 1);
            check.same("one step and its call", x.add(3, CALL, 1, 0) * x.alike(1, 3), 1);
        });
        tests.put("promise 21: commute, figures are 0 to 7", check -> {
            DanceFigures x = with(SWAP, 0, 9);
            x.add(7, RING, 1, 0);
            check.same("the first and the last one", x.commute(0, 7), 0);
            check.same("the last and the first one", x.commute(7, 0), 0);
            for (int figure : NO_FIGURES) {
                check.same("commute(" + figure + ", 0)", x.commute(figure, 0), NO_SUCH);
                check.same("commute(0, " + figure + ")", x.commute(0, figure), NO_SUCH);
            }
        });
        tests.put("promise 21: commute, with itself and with a figure without moves", check -> {
            DanceFigures x = with(RING, 1, 0, TURN, 0, 1);
            check.same("itself", x.commute(0, 0), 1);
            check.same("nothing", x.commute(0, 7), 1);
            check.same("nothing and nothing", x.commute(6, 7), 1);
        });
        tests.put("promise 21: commute, the effect counts, faces too", check -> {
            DanceFigures x = with(SWAP, 0, 9);
            put(x, 1, TURN, 9, 2);
            put(x, 2, TURN, 0, 2, TURN, 9, 2);
            check.same("one of the two faces", x.commute(0, 1), 0);
            check.same("both faces", x.commute(0, 2), 1);
        });
    }
}
