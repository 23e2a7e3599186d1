/** The sentences of CELLS, THE LINE, REACH and LANDS: "Terms" 2, promises 9 and 11 to 13. */
final class LineSentences extends Sentences {
    static void all() {
        cells();
        flatLines();
        posts();
        hardlyInclined();
        cornerToCorner();
        cornersAtTheEnds();
        cornersSideBySide();
        justThere();
        reachOfKinds();
        reachAtItsEdges();
        reachWithoutGuards();
        notHisOwn();
        asItIs();
        hasAndWorth();
        crossRefused();
        crossRefusedAtOnce();
        person();
        personRefused();
        cell();
        cellRefused();
        land();
        landRefused();
    }

    private static void cells() {
        holds("Terms", "CELLS x 0 to 7 (from west to east), y 0 to 5 (from south to north);"
                + " a CELL's number is 8 y and x.");
        BorderBeds x = on(FLAT + "village 0 0 1;village 7 0 2;village 0 1 3;village 7 4 4;"
                + "village 0 5 5;village 7 5 6;");
        int[] cells = {0, 7, 8, 39, 40, 47};
        for (int n = 0; n < cells.length; n++) {
            is("cell(" + cells[n] + ", 2)", x.cell(cells[n], 2), n + 1);
        }
        is("cell(-1, 2)", x.cell(-1, 2), BAD);
        is("cell(48, 2)", x.cell(48, 2), BAD);
    }

    private static void flatLines() {
        holds("Terms", "CELLS below it are the south's (0), above it the north's (1), a CELL just"
                + " there is nobody's (-1).");
        for (int high = 0; high <= 5; high++) {
            BorderBeds x = on("posts " + high + " " + high + " 1;");
            for (int cell = 0; cell < 48; cell++) {
                int y = cell / 8;
                is("cell(" + cell + ", 0)", x.cell(cell, 0), y < high ? 0 : y > high ? 1 : -1);
            }
            lands(x, 8 * high, 0, 8 * (5 - high), 0);
        }
    }

    private static void posts() {
        holds("Terms", "THE LINE goes from the west post, x -1 and y WEST");
        BorderBeds x = on("posts 1 4 1;");
        souths(x, 2, 2, 2, 3, 3, 3, 4, 4);
        owners(x, 1, 0, 0, 1, 1, 1, 1);
        owners(x, 2, 0, 0, -1, 1, 1, 1);
        owners(x, 5, 0, 0, 0, -1, 1, 1);
        owners(x, 7, 0, 0, 0, 0, 1, 1);
        lands(x, 23, 0, 23, 0);
        holds("Terms", "to the east post, x 8 and y EAST");
        BorderBeds y = on("posts 4 1 1;");
        souths(y, 4, 4, 3, 3, 3, 2, 2, 2);
        owners(y, 2, 0, 0, 0, -1, 1, 1);
        owners(y, 5, 0, 0, -1, 1, 1, 1);
        lands(y, 23, 0, 23, 0);
    }

    private static void hardlyInclined() {
        holds("Terms", "In a column x it is at a height, a fraction");
        BorderBeds x = on("posts 0 1 1;");
        souths(x, 1, 1, 1, 1, 1, 1, 1, 1);
        lands(x, 8, 0, 40, 0);
        lands(on("posts 1 0 1;"), 8, 0, 40, 0);
        lands(on("posts 4 5 1;"), 40, 0, 8, 0);
        lands(on("posts 5 4 1;"), 40, 0, 8, 0);
        lands(on("posts 0 5 1;"), 24, 0, 24, 0);
        lands(on("posts 5 0 1;"), 24, 0, 24, 0);
    }

    private static void cornerToCorner() {
        holds("Terms", "straight from CORNER to CORNER, as their x is");
        String text = FLAT + "person aunt 0 0 0 13;person aunt 1 0 0 13;";
        BorderBeds x = on(text);
        crosses(x, 0, 34, 1);
        souths(x, 2, 3, 4, 4, 3, 2, 2, 1);
        crosses(x, 1, 13, 2);
        int[] due = {2, 3, 4, 3, 2, 1, 1, 1};
        souths(x, due);
        owners(x, 1, 0, 0, 0, 1, 1, 1);
        owners(x, 2, 0, 0, 0, 0, -1, 1);
        owners(x, 3, 0, 0, 0, -1, 1, 1);
        owners(x, 4, 0, 0, -1, 1, 1, 1);
        owners(x, 5, 0, -1, 1, 1, 1, 1);
        BorderBeds y = on(text);
        crosses(y, 0, 13, 1);
        crosses(y, 0, 34, 2);
        souths(y, due);
        owners(y, 3, 0, 0, 0, -1, 1, 1);
    }

    private static void cornersAtTheEnds() {
        holds("Terms", "straight from CORNER to CORNER, as their x is, to the east post");
        BorderBeds x = on(FLAT + "person aunt 0 0 0 13;");
        crosses(x, 0, 40, 1);
        souths(x, 5, 5, 4, 4, 3, 2, 2, 1);
        owners(x, 0, 0, 0, 0, 0, 0, -1);
        crosses(x, 0, 47, 2);
        souths(x, 5, 5, 5, 5, 5, 5, 5, 5);
        lands(x, 40, 0, 0, 0);
        BorderBeds y = on(FLAT + "person aunt 0 0 0 13;");
        crosses(y, 0, 47, 1);
        souths(y, 1, 2, 2, 3, 4, 4, 5, 5);
        owners(y, 7, 0, 0, 0, 0, 0, -1);
    }

    private static void cornersSideBySide() {
        holds("Terms", "straight from CORNER to CORNER, as their x is");
        BorderBeds x = on(FLAT + "person aunt 0 0 0 13;person aunt 1 0 0 13;");
        crosses(x, 0, 43, 1);
        crosses(x, 1, 4, 2);
        souths(x, 2, 3, 4, 5, 0, 0, 0, 0);
        owners(x, 3, 0, 0, 0, 0, 0, -1);
        owners(x, 4, -1, 1, 1, 1, 1, 1);
        owners(x, 5, -1, 1, 1, 1, 1, 1);
    }

    private static void justThere() {
        holds("Terms", "a CELL just there is nobody's (-1)");
        BorderBeds x = on("posts 2 2 6;village 4 2 9;person aunt 0 4 2 0;person aunt 1 4 2 0;");
        is("cell(20, 0)", x.cell(20, 0), -1);
        lands(x, 16, 0, 24, 0);
        is("person(0, 3): nobody's is not his own", x.person(0, 3), 1);
        is("person(1, 3)", x.person(1, 3), 1);
        crosses(x, 0, 20, 1);
        is("cell(20, 0): a CORNER is nobody's", x.cell(20, 0), -1);
        crosses(x, 1, 20, 1);
        lands(x, 16, 0, 24, 0);
    }

    /** Tries all CELLS of a GROUND on which the south has nothing: just the REACH counts. */
    private static void reaches(String sort, int home, int miles, int reach) {
        String text = FLAT + "person " + sort + " 0 " + home % 8 + " " + home / 8 + " " + miles
                + ";";
        BorderBeds x = on(text);
        int ways = 0;
        for (int cell = 0; cell < 48; cell++) {
            int far = Math.abs(cell % 8 - home % 8) + Math.abs(cell / 8 - home / 8);
            ways += far <= reach ? 1 : 0;
            int got = x.cross(0, cell);
            is("whether " + sort + " with " + miles + " MILES may from " + home + " to " + cell,
                    got == STATE ? 0 : 1, far <= reach ? 1 : 0);
            is("undo()", x.undo(), got == STATE ? STATE : 0);
        }
        is("person(0, 3) of " + sort + " with " + miles + " MILES", x.person(0, 3), ways);
    }

    private static void reachOfKinds() {
        holds("Terms", "as far from his home, by x and by y together, as MILES at most"
                + " (an envoy: twice MILES)");
        reaches("aunt", 19, 3, 3);
        reaches("child", 19, 3, 3);
        reaches("monk", 19, 3, 3);
        reaches("twin", 19, 3, 3);
        reaches("envoy", 19, 3, 6);
    }

    private static void reachAtItsEdges() {
        holds("Terms", "as far from his home, by x and by y together, as MILES at most"
                + " (an envoy: twice MILES)");
        reaches("aunt", 27, 0, 0);
        reaches("envoy", 27, 0, 0);
        reaches("aunt", 0, 1, 1);
        reaches("aunt", 47, 1, 1);
        reaches("envoy", 40, 1, 2);
        reaches("aunt", 7, 11, 11);
        reaches("aunt", 7, 12, 12);
        reaches("aunt", 7, 13, 13);
        reaches("envoy", 0, 5, 10);
        reaches("envoy", 0, 6, 12);
        reaches("envoy", 0, 13, 26);
    }

    private static void reachWithoutGuards() {
        holds("Terms", "REACH of one: CELLS without a guard");
        BorderBeds x = on(FLAT + "guard 3 3;person aunt 0 3 3 0;person envoy 0 3 3 1;"
                + "person aunt 1 3 3 13;");
        is("person(0, 3): his home has a guard", x.person(0, 3), 0);
        is("cross(0, 27)", x.cross(0, 27), STATE);
        is("person(1, 3)", x.person(1, 3), 12);
        is("cross(1, 27)", x.cross(1, 27), STATE);
        is("person(2, 3): only nobody's CELLS", x.person(2, 3), 8);
        BorderBeds y = on("posts 0 0 6;guard 0 0;guard 7 0;guard 0 5;guard 7 5;guard 3 2;guard 4 3;"
                + "guard 3 5;guard 7 3;person envoy 0 2 2 13;");
        is("person(0, 3)", y.person(0, 3), 40);
        int[] guards = {0, 7, 40, 47, 19, 28, 43, 31};
        for (int cell : guards) {
            is("cross(0, " + cell + ")", y.cross(0, cell), STATE);
        }
        is("count(4)", y.count(4), 0);
    }

    private static void notHisOwn() {
        holds("Terms", "He may CROSS to a CELL of his REACH that is not his own LAND's");
        String line = "posts 1 4 6;";
        BorderBeds x = on(line + "person aunt 0 0 0 13;person aunt 1 7 5 13;");
        is("person(0, 3): the north's and nobody's", x.person(0, 3), 25);
        is("person(1, 3): the south's and nobody's", x.person(1, 3), 25);
        for (int cell = 0; cell < 48; cell++) {
            int owner = x.cell(cell, 0);
            for (int who = 0; who < 2; who++) {
                int got = x.cross(who, cell);
                is("cross(" + who + ", " + cell + ")", got, owner == who ? STATE : 1);
                if (got != STATE) {
                    x.undo();
                }
            }
        }
    }

    private static void asItIs() {
        holds("Terms", "that is not his own LAND's as it is.");
        BorderBeds x = on("posts 2 2 6;person aunt 0 0 0 13;person aunt 1 0 5 13;");
        is("cross(1, 24): his own", x.cross(1, 24), STATE);
        crosses(x, 0, 40, 1);
        is("cross(0, 24): his own by now", x.cross(0, 24), STATE);
        is("cross(0, 40): nobody's", x.cross(0, 40), 1);
        is("cross(1, 24): no more his own", x.cross(1, 24), 1);
        corners(x, 24);
        x.undo();
        x.undo();
        x.undo();
        is("cross(1, 24): his own again", x.cross(1, 24), STATE);
        is("cross(0, 24)", x.cross(0, 24), 1);
    }

    private static void hasAndWorth() {
        holds("Terms", "HAS of a LAND: how many CELLS. WORTH of a LAND: that of all villages in its"
                + " CELLS. LEAD of a LAND: its WORTH less that of the other one.");
        BorderBeds x = on("posts 2 2 1;village 0 1 5;village 7 1 6;village 7 2 50;village 0 3 9;"
                + "village 0 3 9;village 7 5 99;");
        lands(x, 16, 11, 24, 117);
        lands(on("posts 2 2 1;village 3 2 99;village 3 2 99;"), 16, 0, 24, 0);
        lands(on("posts 0 0 1;village 3 0 99;village 3 1 1;"), 0, 0, 40, 1);
        lands(on("posts 5 5 1;village 3 5 99;village 3 4 1;"), 40, 1, 0, 0);
        lands(on("posts 5 5 1;" + "village 7 0 99;".repeat(8)), 40, 792, 0, 0);
    }

    private static void crossRefused() {
        holds("Promise 9", "BAD: CELL 0 to 47; STATE: he may not.");
        BorderBeds x = on(FLAT + "guard 1 1;person aunt 0 0 0 13;person aunt 1 0 0 2;");
        is("cross(0, -1)", x.cross(0, -1), BAD);
        is("cross(0, 48)", x.cross(0, 48), BAD);
        is("cross(0, min)", x.cross(0, MIN), BAD);
        is("cross(0, max)", x.cross(0, MAX), BAD);
        is("cross(-1, 0)", x.cross(-1, 0), BAD);
        is("cross(2, 0)", x.cross(2, 0), BAD);
        is("cross(min, 0)", x.cross(MIN, 0), BAD);
        is("cross(max, 0)", x.cross(MAX, 0), BAD);
        is("cross(0, 9): a guard", x.cross(0, 9), STATE);
        is("cross(1, 8): his own", x.cross(1, 8), STATE);
        is("cross(1, 3): too far", x.cross(1, 3), STATE);
        is("count(2)", x.count(2), 0);
        is("count(4)", x.count(4), 0);
        is("undo()", x.undo(), STATE);
        is("cross(0, 0): the least", x.cross(0, 0), 1);
        is("cross(0, 47): the greatest", x.cross(0, 47), 2);
    }

    private static void crossRefusedAtOnce() {
        holds("Terms", "Refusals are answers, the first of these that fits");
        BorderBeds x = on("posts 2 2 1;person aunt 0 0 0 0;");
        is("cross(0, -1): BAD, and he may not", x.cross(0, -1), BAD);
        is("cross(0, 48): BAD, and he may not", x.cross(0, 48), BAD);
        is("cross(1, 0): nobody has this number", x.cross(1, 0), BAD);
        is("cross(0, 0)", x.cross(0, 0), STATE);
        BorderBeds y = on("posts 2 2 1;");
        is("cross(0, 24): no PEOPLE", y.cross(0, 24), BAD);
    }

    private static void person() {
        holds("Promise 11", "Of one: 0 LAND, 1 his home's CELL, 2 MILES, 3 to how many CELLS he may"
                + " CROSS.");
        BorderBeds x = on("posts 3 3 6;guard 0 4;guard 0 3;person aunt 0 0 0 0;"
                + "person envoy 1 7 5 13;person aunt 0 0 3 2;");
        int[][] due = {{0, 0, 0, 0}, {1, 47, 13, 31}, {0, 24, 2, 4}};
        for (int who = 0; who < 3; who++) {
            for (int what = 0; what < 4; what++) {
                is("person(" + who + ", " + what + ")", x.person(who, what), due[who][what]);
            }
        }
        crosses(x, 1, 0, 1);
        is("person(1, 3): as it is then", x.person(1, 3) < 31 ? 1 : 0, 1);
        is("person(0, 3): his home is nobody's then", x.person(0, 3), 1);
    }

    private static void personRefused() {
        holds("Promise 11", "3 to how many CELLS he may CROSS. BAD.");
        BorderBeds x = on(FLAT + "person aunt 0 0 0 0;");
        is("person(0, -1)", x.person(0, -1), BAD);
        is("person(0, 0)", x.person(0, 0), 0);
        is("person(0, 3)", x.person(0, 3), 1);
        is("person(0, 4)", x.person(0, 4), BAD);
        is("person(-1, 0)", x.person(-1, 0), BAD);
        is("person(1, 0)", x.person(1, 0), BAD);
        is("person(min, max)", x.person(MIN, MAX), BAD);
        is("person(max, min)", x.person(MAX, MIN), BAD);
    }

    private static void cell() {
        holds("Promise 12", "Of a CELL: 0 whose it is (-1: nobody's), 1 whether it has a guard"
                + " (1, 0), 2 WORTH of villages there, 3 whether it is a CORNER (1, 0).");
        BorderBeds x = on("posts 2 2 6;village 1 2 7;village 1 2 8;guard 2 2;guard 2 2;"
                + "person aunt 0 0 0 13;");
        crosses(x, 0, 19, 1);
        int[][] due = {{0, 0, 0, 0}, {-1, 0, 15, 0}, {-1, 1, 0, 0}, {-1, 0, 0, 1}, {1, 0, 0, 0}};
        int[] cells = {0, 17, 18, 19, 47};
        for (int n = 0; n < cells.length; n++) {
            for (int what = 0; what < 4; what++) {
                is("cell(" + cells[n] + ", " + what + ")", x.cell(cells[n], what), due[n][what]);
            }
        }
        is("cell(11, 3): of its column, not there", x.cell(11, 3), 0);
        is("cell(27, 3): of its column, not there", x.cell(27, 3), 0);
    }

    private static void cellRefused() {
        holds("Promise 12", "BAD; STATE: no GROUND (ahead of BAD).");
        BorderBeds x = new BorderBeds();
        is("cell(0, 0)", x.cell(0, 0), STATE);
        is("cell(-1, 0): STATE and BAD", x.cell(-1, 0), STATE);
        is("cell(48, 4): STATE and BAD", x.cell(48, 4), STATE);
        read(x, "?");
        is("cell(0, 0): a FAULT makes no GROUND", x.cell(0, 0), STATE);
        read(x, FLAT);
        is("cell(-1, 0)", x.cell(-1, 0), BAD);
        is("cell(0, 0)", x.cell(0, 0), -1);
        is("cell(47, 0)", x.cell(47, 0), 1);
        is("cell(48, 0)", x.cell(48, 0), BAD);
        is("cell(0, -1)", x.cell(0, -1), BAD);
        is("cell(0, 3)", x.cell(0, 3), 0);
        is("cell(0, 4)", x.cell(0, 4), BAD);
        is("cell(min, 3)", x.cell(MIN, 3), BAD);
        is("cell(max, 3)", x.cell(MAX, 3), BAD);
        is("cell(0, min)", x.cell(0, MIN), BAD);
        is("cell(0, max)", x.cell(0, MAX), BAD);
    }

    private static void land() {
        holds("Promise 13", "Of a LAND: HAS (what = 0), WORTH (1), LEAD (2).");
        lands(on(FLAT), 0, 0, 40, 0);
        lands(on("posts 5 5 1;"), 40, 0, 0, 0);
        BorderBeds x = on("posts 1 4 6;village 0 1 3;village 7 4 4;person aunt 0 0 1 13;");
        lands(x, 23, 3, 23, 4);
        crosses(x, 0, 47, 1);
        souths(x, 2, 2, 3, 3, 4, 4, 5, 5);
        lands(x, 28, 7, 16, 0);
        x.undo();
        lands(x, 23, 3, 23, 4);
    }

    private static void landRefused() {
        holds("Promise 13", "BAD; STATE: no GROUND (ahead of BAD).");
        BorderBeds x = new BorderBeds();
        is("land(0, 0)", x.land(0, 0), STATE);
        is("land(-1, 0): STATE and BAD", x.land(-1, 0), STATE);
        is("land(0, 3): STATE and BAD", x.land(0, 3), STATE);
        read(x, FLAT);
        is("land(-1, 0)", x.land(-1, 0), BAD);
        is("land(0, 0)", x.land(0, 0), 0);
        is("land(1, 2)", x.land(1, 2), 0);
        is("land(2, 0)", x.land(2, 0), BAD);
        is("land(0, -1)", x.land(0, -1), BAD);
        is("land(0, 3)", x.land(0, 3), BAD);
        is("land(min, 0)", x.land(MIN, 0), BAD);
        is("land(max, 0)", x.land(MAX, 0), BAD);
        is("land(0, min)", x.land(0, MIN), BAD);
        is("land(0, max)", x.land(0, MAX), BAD);
    }
}
