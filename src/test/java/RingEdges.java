/** The boundary cases of "Terms" that tell of the ring, of moves, of effects and of orders. */
final class RingEdges extends Basics {
    private RingEdges() {
    }

    static void addTo(Tests tests) {
        dancers(tests);
        rangesOfPairs(tests, SWAP, "SWAP");
        rangesOfPairs(tests, REVERSE, "REVERSE");
        rangesOfOthers(tests);
        steps(tests);
        reverses(tests);
        backwards(tests);
        effects(tests);
        orders(tests);
    }

    // ---- dancers

    private static void dancers(Tests tests) {
        tests.put("dancers: there are 10 places, from 0 to 9", RingEdges::tenPlaces);
        tests.put("dancers: there are 10 dancers, 0 to 9", RingEdges::tenDancers);
        tests.put("dancers: places are numbered clockwise, and behind 9 comes 0", RingEdges::behindNine);
        tests.put("dancers: a face is 0 to 3", RingEdges::faces);
        tests.put("dancers: at first each one is at its own place, with the face 0", check -> {
            ringIs(check, new DanceFigures(), HOME);
            check.same("all are at home", new DanceFigures().count(0), 10);
        });
        tests.put("dancers: places whose numbers differ by 1 are neighbors", RingEdges::apartByOne);
        tests.put("dancers: places whose numbers differ by 2 to 8 are not", RingEdges::apartByMore);
        tests.put("dancers: 0 and 9 are neighbors", check -> {
            check.same("hold(0, 9)", new DanceFigures().hold(0, 9), 1);
            check.same("hold(9, 0)", new DanceFigures().hold(9, 0), 1);
        });
    }

    private static void tenPlaces(Check check) {
        DanceFigures x = new DanceFigures();
        check.same("the first place", x.at(0), 0);
        check.same("the last place", x.at(9), 9);
        check.same("one less", x.at(-1), NO_SUCH);
        check.same("one more", x.at(10), NO_SUCH);
    }

    private static void tenDancers(Check check) {
        DanceFigures x = new DanceFigures();
        check.same("the first dancer", x.dancer(0, 0), 0);
        check.same("the last dancer", x.dancer(9, 0), 9);
        check.same("one less", x.dancer(-1, 0), NO_SUCH);
        check.same("one more", x.dancer(10, 0), NO_SUCH);
    }

    private static void behindNine(Check check) {
        danceLeads(check, with(RING, 1, 0), false, "9012345678/0000000000");
        danceLeads(check, with(RING, 9, 0), false, "1234567890/0000000000");
        danceLeads(check, with(RING, 1, 0), true, "1234567890/0000000000");
    }

    private static void faces(Check check) {
        DanceFigures x = with(TURN, 4, 1);
        for (int due : new int[] {1, 2, 3, 0, 1}) {
            x.dance(0, 1, false);
            check.same("the face after one quarter more", x.dancer(4, 1), due);
        }
    }

    private static void apartByOne(Check check) {
        for (int place = 0; place < 9; place++) {
            check.same("hold(" + place + ", + 1)", new DanceFigures().hold(place, place + 1), 1);
            check.same("hold(+ 1, " + place + ")", new DanceFigures().hold(place + 1, place), 1);
        }
    }

    private static void apartByMore(Check check) {
        for (int apart = 2; apart <= 8; apart++) {
            for (int place = 0; place + apart <= 9; place++) {
                DanceFigures x = new DanceFigures();
                check.same("hold(" + place + ", + " + apart + ")", x.hold(place, place + apart), NOT_POSSIBLE);
                check.same("hold(+ " + apart + ", " + place + ")", x.hold(place + apart, place), NOT_POSSIBLE);
            }
        }
    }

    // ---- the ranges of a and b

    private static String named(int figure, int kind, int a, int b) {
        return "add(" + figure + ", " + kind + ", " + a + ", " + b + ")";
    }

    private static void taken(Check check, int figure, int kind, int a, int b) {
        DanceFigures x = new DanceFigures();
        check.same(named(figure, kind, a, b), x.add(figure, kind, a, b), 1);
        check.same("its kind", x.move(figure, 0, 0), kind);
        check.same("its a", x.move(figure, 0, 1), a);
        check.same("its b", x.move(figure, 0, 2), b);
    }

    private static void refused(Check check, int figure, int kind, int a, int b) {
        DanceFigures x = new DanceFigures();
        check.same(named(figure, kind, a, b), x.add(figure, kind, a, b), BAD_VALUE);
        check.same("moves after it", x.figure(figure, 0), 0);
    }

    private static void rangesOfPairs(Tests tests, int kind, String name) {
        tests.put("moves: " + name + ", a from 0", check -> {
            taken(check, 0, kind, 0, 1);
            taken(check, 0, kind, 0, 9);
            refused(check, 0, kind, -1, 0);
            refused(check, 0, kind, -1, 9);
            refused(check, 0, kind, LOWEST, 5);
        });
        tests.put("moves: " + name + ", a to 8", check -> {
            taken(check, 0, kind, 8, 9);
            refused(check, 0, kind, 9, 9);
            refused(check, 0, kind, 9, 10);
            refused(check, 0, kind, 9, 0);
            refused(check, 0, kind, HIGHEST, LOWEST);
        });
        tests.put("moves: " + name + ", b from a + 1", check -> {
            for (int a = 0; a <= 8; a++) {
                taken(check, 0, kind, a, a + 1);
                refused(check, 0, kind, a, a);
                refused(check, 0, kind, a, a - 1);
                refused(check, 0, kind, a, LOWEST);
            }
        });
        tests.put("moves: " + name + ", b to 9", check -> {
            for (int a = 0; a <= 8; a++) {
                taken(check, 0, kind, a, 9);
                refused(check, 0, kind, a, 10);
                refused(check, 0, kind, a, HIGHEST);
            }
        });
    }

    private static void rangesOfOthers(Tests tests) {
        tests.put("moves: the kinds are 0 to 4", RingEdges::kinds);
        tests.put("moves: TURN, a from 0", check -> {
            taken(check, 0, TURN, 0, 1);
            refused(check, 0, TURN, -1, 1);
            refused(check, 0, TURN, LOWEST, 1);
        });
        tests.put("moves: TURN, a to 9", check -> {
            taken(check, 0, TURN, 9, 1);
            refused(check, 0, TURN, 10, 1);
            refused(check, 0, TURN, HIGHEST, 1);
        });
        tests.put("moves: TURN, b from 1", check -> {
            taken(check, 0, TURN, 4, 1);
            refused(check, 0, TURN, 4, 0);
            refused(check, 0, TURN, 4, -1);
        });
        tests.put("moves: TURN, b to 3", check -> {
            taken(check, 0, TURN, 4, 3);
            refused(check, 0, TURN, 4, 4);
            refused(check, 0, TURN, 4, HIGHEST);
        });
        tests.put("moves: RING, a from 1", check -> {
            taken(check, 0, RING, 1, 0);
            refused(check, 0, RING, 0, 0);
            refused(check, 0, RING, -1, 0);
        });
        tests.put("moves: RING, a to 9", check -> {
            taken(check, 0, RING, 9, 0);
            refused(check, 0, RING, 10, 0);
            refused(check, 0, RING, HIGHEST, 0);
        });
        tests.put("moves: RING, b is 0", check -> {
            taken(check, 0, RING, 5, 0);
            refused(check, 0, RING, 5, -1);
            refused(check, 0, RING, 5, 1);
        });
        tests.put("moves: CALL, a is the number of a figure, from 0", check -> {
            taken(check, 7, CALL, 0, 0);
            refused(check, 7, CALL, -1, 0);
            refused(check, 7, CALL, LOWEST, 0);
        });
        tests.put("moves: CALL, a is the number of a figure, up to that below 7", check -> {
            taken(check, 7, CALL, 6, 0);
            refused(check, 7, CALL, 8, 0);
            refused(check, 7, CALL, HIGHEST, 0);
        });
        tests.put("moves: CALL, b is 0", check -> {
            taken(check, 5, CALL, 3, 0);
            refused(check, 5, CALL, 3, -1);
            refused(check, 5, CALL, 3, 1);
        });
    }

    /** 0 and 1 suit SWAP, TURN and REVERSE, 1 and 0 suit RING and CALL. */
    private static void kinds(Check check) {
        taken(check, 7, 0, 0, 1);
        taken(check, 7, 4, 1, 0);
        for (int kind : new int[] {-1, 5, LOWEST, HIGHEST}) {
            refused(check, 7, kind, 0, 1);
            refused(check, 7, kind, 1, 0);
        }
    }

    // ---- what the moves do

    private static void steps(Tests tests) {
        tests.put("moves: SWAP changes the dancers at a and b alone, with their faces", RingEdges::swaps);
        tests.put("moves: TURN makes the face b more, modulo 4", RingEdges::turns);
        tests.put("moves: TURN at the first and at the last place", check -> {
            danceLeads(check, with(TURN, 0, 3), false, "0123456789/3000000000");
            danceLeads(check, with(TURN, 9, 3), false, "0123456789/0000000003");
        });
        tests.put("moves: RING makes the place a more, modulo 10", RingEdges::rings);
        tests.put("moves: CALL of a figure without moves makes nothing", check -> {
            DanceFigures x = new DanceFigures();
            x.add(1, CALL, 0, 0);
            check.same("steps that are made", x.dance(1, 1, false), 0);
            ringIs(check, x, HOME);
        });
        tests.put("moves: CALL makes the moves of a full figure, all ten", RingEdges::callOfTen);
        tests.put("moves: the kinds 0 to 3 are steps, the kind 4 is none", RingEdges::whatStepsAre);
    }

    private static void swaps(Check check) {
        danceLeads(check, with(TURN, 0, 1, TURN, 9, 2, SWAP, 0, 9), false, "9123456780/2000000001");
        danceLeads(check, with(TURN, 0, 1, TURN, 2, 3, SWAP, 0, 1), false, "1023456789/0130000000");
        danceLeads(check, with(TURN, 7, 3, TURN, 9, 1, SWAP, 8, 9), false, "0123456798/0000000310");
    }

    private static void turns(Check check) {
        for (int before = 1; before <= 3; before++) {
            for (int b = 1; b <= 3; b++) {
                DanceFigures x = with(TURN, 5, before, TURN, 5, b);
                x.dance(0, 1, false);
                check.same(before + " and " + b + " quarters", x.dancer(5, 1),
                        before + b >= 4 ? before + b - 4 : before + b);
            }
        }
    }

    private static void rings(Check check) {
        String twice = "01234567890123456789";
        for (int a = 1; a <= 9; a++) {
            DanceFigures x = with(TURN, 0, 1, RING, a, 0);
            String faces = "00000000000".substring(0, a) + "1" + "000000000".substring(a);
            danceLeads(check, x, false, twice.substring(10 - a, 20 - a) + "/" + faces);
        }
    }

    private static void callOfTen(Check check) {
        DanceFigures x = new DanceFigures();
        for (int place = 0; place < 10; place++) {
            x.add(6, TURN, place, 1);
        }
        x.add(7, CALL, 6, 0);
        check.same("steps that are made", x.dance(7, 1, false), 10);
        ringIs(check, x, "0123456789/1111111111");
    }

    private static void whatStepsAre(Check check) {
        DanceFigures x = with(SWAP, 0, 1, TURN, 0, 1, RING, 1, 0, REVERSE, 0, 1);
        check.same("one of each kind of step", x.figure(0, 1), 4);
        x.add(1, CALL, 0, 0);
        check.same("a call adds those alone that it makes", x.figure(1, 1), 4);
        check.same("they are made", x.dance(1, 1, false), 4);
    }

    private static void reverses(Tests tests) {
        tests.put("moves: REVERSE of two places, the fewest", check -> {
            danceLeads(check, with(REVERSE, 0, 1), false, "1023456789/2200000000");
            danceLeads(check, with(REVERSE, 8, 9), false, "0123456798/0000000022");
        });
        tests.put("moves: REVERSE of all ten places", check ->
                danceLeads(check, with(REVERSE, 0, 9), false, "9876543210/2222222222"));
        tests.put("moves: REVERSE of three places, the middle one stays and turns", check ->
                danceLeads(check, with(REVERSE, 3, 5), false, "0125436789/0002220000"));
        tests.put("moves: REVERSE of nine places, the middle one stays and turns", check -> {
            danceLeads(check, with(REVERSE, 0, 8), false, "8765432109/2222222220");
            danceLeads(check, with(REVERSE, 1, 9), false, "0987654321/0222222222");
        });
        tests.put("moves: REVERSE leaves the places a - 1 and b + 1 alone", check -> {
            danceLeads(check, with(TURN, 0, 1, TURN, 9, 3, REVERSE, 1, 8), false, "0876543219/1222222223");
            danceLeads(check, with(TURN, 3, 1, TURN, 6, 3, REVERSE, 4, 5), false, "0123546789/0001223000");
        });
        tests.put("moves: REVERSE makes faces 2 more, modulo 4", check ->
                danceLeads(check, with(TURN, 1, 1, TURN, 2, 2, TURN, 3, 3, REVERSE, 0, 3), false,
                        "3210456789/1032000000"));
    }

    // ---- backwards

    private static void backwards(Tests tests) {
        tests.put("backwards: from the last step to the first one", RingEdges::lastToFirst);
        tests.put("backwards: TURN with 4 - b", check -> {
            danceLeads(check, with(TURN, 2, 1), true, "0123456789/0030000000");
            danceLeads(check, with(TURN, 2, 2), true, "0123456789/0020000000");
            danceLeads(check, with(TURN, 2, 3), true, "0123456789/0010000000");
        });
        tests.put("backwards: RING with 10 - a", check -> {
            danceLeads(check, with(RING, 1, 0), true, "1234567890/0000000000");
            danceLeads(check, with(RING, 5, 0), true, "5678901234/0000000000");
            danceLeads(check, with(RING, 9, 0), true, "9012345678/0000000000");
        });
        tests.put("backwards: SWAP as it is", check ->
                danceLeads(check, with(SWAP, 0, 9), true, "9123456780/0000000000"));
        tests.put("backwards: REVERSE as it is", check ->
                danceLeads(check, with(REVERSE, 0, 2), true, "2103456789/2220000000"));
        tests.put("backwards: the steps of figures that it calls too", RingEdges::callsBackwards);
        tests.put("backwards: a figure without moves makes nothing", check -> {
            DanceFigures x = new DanceFigures();
            check.same("steps that are made", x.dance(0, 1, true), 0);
            ringIs(check, x, HOME);
        });
        tests.put("backwards: all 120 steps, the most that a figure has", RingEdges::mostBackwards);
    }

    private static void lastToFirst(Check check) {
        danceLeads(check, with(SWAP, 0, 1, SWAP, 1, 2), false, "1203456789/0000000000");
        danceLeads(check, with(SWAP, 0, 1, SWAP, 1, 2), true, "2013456789/0000000000");
    }

    private static void callsBackwards(Check check) {
        DanceFigures x = with(SWAP, 0, 1, TURN, 1, 1);
        put(x, 1, CALL, 0, 0, RING, 2, 0);
        x.dance(1, 1, true);
        // RING 8: 2345678901; TURN 1 3: the dancer 3; SWAP 0 1
        ringIs(check, x, "3245678901/3000000000");
        x.dance(1, 1, false);
        ringIs(check, x, HOME);
    }

    private static void mostBackwards(Check check) {
        DanceFigures x = new DanceFigures();
        put(x, 0, SWAP, 0, 9, TURN, 0, 1, RING, 3, 0, REVERSE, 2, 7, TURN, 9, 3);
        put(x, 0, SWAP, 1, 2, RING, 9, 0, REVERSE, 0, 3, TURN, 4, 2, SWAP, 3, 8);
        putOften(x, 6, 1, CALL, 0, 0);
        putOften(x, 2, 2, CALL, 1, 0);
        check.same("forwards", x.dance(2, 1, false), 120);
        check.holds("the dancers are elsewhere", !ring(x).equals(HOME));
        check.same("backwards", x.dance(2, 1, true), 120);
        ringIs(check, x, HOME);
    }

    // ---- effects and orders

    private static void effects(Tests tests) {
        tests.put("effect: the place to which a dancer goes, behind 9 comes 0", check -> {
            DanceFigures x = with(RING, 3, 0);
            check.same("from 0", x.effect(0, 0, false), 3);
            check.same("from 6", x.effect(0, 6, false), 9);
            check.same("from 7", x.effect(0, 7, false), 0);
            check.same("from 9", x.effect(0, 9, false), 2);
        });
        tests.put("effect: the quarters are 0 to 3", check -> {
            DanceFigures x = with(TURN, 0, 3, TURN, 0, 1, TURN, 1, 2, TURN, 1, 2, TURN, 2, 3, TURN, 2, 3);
            put(x, 0, TURN, 3, 1, TURN, 3, 2);
            int[] due = {0, 0, 2, 3, 0};
            for (int place = 0; place < due.length; place++) {
                check.same("at " + place, x.effect(0, place, true), due[place]);
            }
        });
        tests.put("effect: the quarters are told for the place where the dancer is at first", check -> {
            DanceFigures x = with(RING, 1, 0, TURN, 0, 3);
            check.same("it comes from 9", x.effect(0, 9, true), 3);
            check.same("not from 0", x.effect(0, 0, true), 0);
        });
        tests.put("effect: of a figure without moves, each stays", check -> {
            DanceFigures x = new DanceFigures();
            for (int place = 0; place < 10; place++) {
                check.same("target of " + place, x.effect(7, place, false), place);
                check.same("quarters at " + place, x.effect(7, place, true), 0);
            }
        });
        tests.put("effect: it does not depend on where which dancers are", RingEdges::effectElsewhere);
    }

    private static void effectElsewhere(Check check) {
        DanceFigures x = with(SWAP, 0, 9, TURN, 9, 1);
        put(x, 1, RING, 4, 0, TURN, 0, 2);
        x.dance(1, 1, false);
        check.same("from 0", x.effect(0, 0, false), 9);
        check.same("from 9", x.effect(0, 9, false), 0);
        check.same("from 4", x.effect(0, 4, false), 4);
        check.same("quarters at 0", x.effect(0, 0, true), 1);
        check.same("quarters at 9", x.effect(0, 9, true), 0);
        check.same("order", x.figure(0, 2), 8);
    }

    private static void orderIs(Check check, int due, int... numbers) {
        check.same("the order", with(numbers).figure(0, 2), due);
    }

    private static void orders(Tests tests) {
        tests.put("order: 1 or more, a figure without moves has 1", check -> {
            orderIs(check, 1);
            check.same("of the last figure", new DanceFigures().figure(7, 2), 1);
        });
        tests.put("order: moves that change nothing in all have 1", check -> {
            orderIs(check, 1, SWAP, 3, 4, SWAP, 3, 4);
            orderIs(check, 1, TURN, 9, 1, TURN, 9, 3);
            orderIs(check, 1, RING, 1, 0, RING, 9, 0);
        });
        tests.put("order: the least number", check -> {
            orderIs(check, 2, SWAP, 0, 9);
            orderIs(check, 2, RING, 5, 0);
            orderIs(check, 5, RING, 4, 0);
            orderIs(check, 10, RING, 9, 0);
        });
        tests.put("order: each dancer back with its face too", check -> {
            orderIs(check, 4, TURN, 0, 1);
            orderIs(check, 2, TURN, 0, 2);
            orderIs(check, 4, TURN, 9, 3);
            orderIs(check, 8, SWAP, 0, 9, TURN, 9, 1);
            orderIs(check, 40, RING, 1, 0, TURN, 0, 1);
        });
        tests.put("order: the highest one is 120", check ->
                orderIs(check, 120, SWAP, 0, 1, SWAP, 1, 2, SWAP, 2, 3, SWAP, 3, 4,
                        SWAP, 5, 6, SWAP, 6, 7, SWAP, 8, 9, TURN, 9, 1));
    }
}
