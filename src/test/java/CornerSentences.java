import java.util.ArrayList;
import java.util.List;

/** The sentences of CROSSES, KEEPS, ACTS and IMAGES: "Terms" 2, promises 9, 10, 19 and 20. */
final class CornerSentences extends Sentences {
    private static final String AUNT = "person aunt 0 0 0 13;", CHILD = "person child 0 0 0 13;";
    private static final String TWIN = "person twin 0 0 0 13;", MONK = "person monk 0 0 0 13;";
    private static final String NORTHERN = "person aunt 1 0 0 13;";

    static void all() {
        inPlaceOfItsX();
        newestByThat();
        keeps();
        twinsCells();
        twinsGuard();
        twinsOwnLand();
        twinsSecondIsNewer();
        twinsTwoGo();
        twinsInPlace();
        monkMakesNone();
        childsGoAhead();
        childsOwnGoes();
        childsAmongThemselves();
        childsNoLonger();
        childsByAge();
        howManyThen();
        actsKept();
        actForgotten();
        actsTurnRound();
        actsByWhichNothingComes();
        refusedIsNoAct();
        undoBringsAgesBack();
        undoNone();
        image();
        imageRefused();
        imageInPlace();
        restoreNoAct();
        restoreAges();
        restoreRefused();
    }

    private static String keeping(int keeps, String people) {
        return "posts 0 0 " + keeps + ";" + people;
    }

    private static void inPlaceOfItsX() {
        holds("Terms", "Then that is the newest CORNER, in place of one with its x");
        BorderBeds x = on(keeping(6, AUNT + NORTHERN));
        crosses(x, 0, 40, 1);
        crosses(x, 0, 47, 2);
        crosses(x, 0, 40, 2);
        corners(x, 40, 47);
        crosses(x, 1, 16, 2);
        corners(x, 16, 47);
        crosses(x, 1, 0, 2);
        corners(x, 0, 47);
        crosses(x, 0, 7 + 40, 2);
        crosses(x, 0, 46, 3);
        corners(x, 0, 46, 47);
    }

    private static void newestByThat() {
        holds("Terms", "Then that is the newest CORNER, in place of one with its x");
        BorderBeds x = on(keeping(2, AUNT + NORTHERN));
        crosses(x, 0, 40, 1);
        crosses(x, 0, 41, 2);
        crosses(x, 0, 40, 2);
        crosses(x, 0, 42, 2);
        corners(x, 40, 42);
        crosses(x, 1, 16, 2);
        crosses(x, 0, 43, 2);
        corners(x, 16, 43);
    }

    private static void keeps() {
        holds("Terms", "as long as there are more than KEEPS of them, one goes");
        for (int keeps = 1; keeps <= 6; keeps++) {
            BorderBeds x = on(keeping(keeps, AUNT));
            for (int made = 1; made <= 8; made++) {
                int kept = Math.min(made, keeps);
                crosses(x, 0, 39 + made, kept);
                int[] due = new int[kept];
                for (int n = 0; n < kept; n++) {
                    due[n] = 40 + made - kept + n;
                }
                corners(x, due);
            }
        }
    }

    private static void twinsCells() {
        holds("Terms", "(of a twin then the CELL 7 less x, y, too");
        for (int cell = 0; cell < 48; cell++) {
            BorderBeds x = on(keeping(6, TWIN));
            int other = cell / 8 * 8 + 7 - cell % 8;
            crosses(x, 0, cell, 2);
            corners(x, Math.min(cell, other), Math.max(cell, other));
        }
    }

    private static void twinsGuard() {
        holds("Terms", "guarded or not");
        BorderBeds x = on(keeping(6, "guard 7 3;guard 3 4;" + TWIN));
        crosses(x, 0, 24, 2);
        corners(x, 24, 31);
        is("cross(0, 31): there is a guard", x.cross(0, 31), STATE);
        crosses(x, 0, 36, 4);
        corners(x, 24, 31, 35, 36);
        is("cell(35, 1): the guard stays", x.cell(35, 1), 1);
    }

    private static void twinsOwnLand() {
        holds("Terms", "(of a twin then the CELL 7 less x, y, too, guarded or not");
        BorderBeds x = on("posts 5 0 6;person twin 0 7 3 0;");
        is("cell(24, 0): his own", x.cell(24, 0), 0);
        is("person(0, 3): and beyond his REACH", x.person(0, 3), 1);
        crosses(x, 0, 31, 2);
        corners(x, 24, 31);
        souths(x, 3, 3, 3, 3, 3, 3, 3, 3);
    }

    private static void twinsSecondIsNewer() {
        holds("Terms", "(of a twin then the CELL 7 less x, y, too");
        BorderBeds x = on(keeping(1, TWIN + AUNT));
        crosses(x, 0, 41, 1);
        corners(x, 46);
        crosses(x, 0, 47, 1);
        corners(x, 40);
        BorderBeds y = on(keeping(2, TWIN + AUNT));
        crosses(y, 0, 45, 2);
        corners(y, 42, 45);
        crosses(y, 1, 40, 2);
        corners(y, 40, 42);
    }

    private static void twinsTwoGo() {
        holds("Terms", "as long as there are more than KEEPS of them, one goes");
        BorderBeds x = on(keeping(6, TWIN + AUNT));
        for (int n = 1; n <= 6; n++) {
            crosses(x, 1, 40 + n, n);
        }
        crosses(x, 0, 40, 6);
        corners(x, 40, 43, 44, 45, 46, 47);
        BorderBeds y = on(keeping(2, CHILD + AUNT + TWIN));
        crosses(y, 1, 43, 1);
        crosses(y, 0, 42, 2);
        crosses(y, 2, 40, 2);
        corners(y, 40, 47);
        BorderBeds z = on(keeping(3, CHILD + AUNT + TWIN));
        crosses(z, 1, 43, 1);
        crosses(z, 0, 42, 2);
        crosses(z, 2, 40, 3);
        corners(z, 40, 43, 47);
    }

    private static void twinsInPlace() {
        holds("Terms", "in place of one with its x (of a twin then the CELL 7 less x, y, too");
        BorderBeds x = on(keeping(6, TWIN + AUNT));
        for (int n = 0; n < 6; n++) {
            crosses(x, 1, 40 + n, n + 1);
        }
        crosses(x, 0, 40, 6);
        corners(x, 40, 42, 43, 44, 45, 47);
        crosses(x, 0, 47, 6);
        corners(x, 40, 42, 43, 44, 45, 47);
        BorderBeds y = on(keeping(2, TWIN + AUNT + CHILD));
        crosses(y, 2, 47, 1);
        crosses(y, 1, 40, 2);
        crosses(y, 0, 40, 2);
        crosses(y, 1, 42, 2);
        corners(y, 42, 47);
    }

    private static void monkMakesNone() {
        holds("Terms", "a monk makes none)");
        BorderBeds x = on(keeping(1, MONK + AUNT));
        crosses(x, 0, 40, 0);
        corners(x);
        lands(x, 0, 0, 40, 0);
        crosses(x, 1, 41, 1);
        crosses(x, 0, 40, 1);
        crosses(x, 0, 41, 1);
        corners(x, 41);
        is("cross(0, 1): his own, though he makes none", x.cross(0, 1), STATE);
        is("count(4)", x.count(4), 4);
    }

    private static void childsGoAhead() {
        holds("Terms", "the oldest that a child made, if there is such a one, else the oldest");
        BorderBeds x = on(keeping(3, CHILD + AUNT));
        crosses(x, 1, 40, 1);
        crosses(x, 0, 41, 2);
        crosses(x, 0, 42, 3);
        crosses(x, 1, 43, 3);
        corners(x, 40, 42, 43);
        crosses(x, 1, 44, 3);
        corners(x, 40, 43, 44);
        crosses(x, 1, 45, 3);
        corners(x, 43, 44, 45);
    }

    private static void childsOwnGoes() {
        holds("Terms", "the oldest that a child made, if there is such a one");
        BorderBeds x = on(keeping(2, CHILD + AUNT));
        crosses(x, 1, 40, 1);
        crosses(x, 0, 42, 2);
        corners(x, 40, 42);
        crosses(x, 1, 41, 2);
        corners(x, 40, 41);
        crosses(x, 0, 47, 2);
        corners(x, 40, 41);
        is("count(4): an ACT all the same", x.count(4), 4);
        crosses(x, 0, 40, 2);
        corners(x, 40, 41);
        crosses(x, 1, 43, 2);
        corners(x, 41, 43);
    }

    private static void childsAmongThemselves() {
        holds("Terms", "the oldest that a child made, if there is such a one");
        BorderBeds x = on(keeping(1, CHILD));
        crosses(x, 0, 40, 1);
        corners(x, 40);
        crosses(x, 0, 41, 1);
        corners(x, 41);
        crosses(x, 0, 41, 1);
        corners(x, 41);
        BorderBeds y = on(keeping(3, CHILD + "person child 0 1 1 13;"));
        for (int n = 0; n < 8; n++) {
            crosses(y, n % 2, 40 + n, Math.min(n + 1, 3));
        }
        corners(y, 45, 46, 47);
    }

    private static void childsNoLonger() {
        holds("Terms", "the oldest that a child made, if there is such a one, else the oldest");
        BorderBeds x = on(keeping(3, CHILD + AUNT + TWIN));
        crosses(x, 1, 40, 1);
        crosses(x, 0, 41, 2);
        crosses(x, 1, 41, 2);
        crosses(x, 1, 42, 3);
        crosses(x, 1, 43, 3);
        corners(x, 41, 42, 43);
        BorderBeds y = on(keeping(3, CHILD + AUNT + TWIN));
        crosses(y, 1, 42, 1);
        crosses(y, 0, 47, 2);
        crosses(y, 2, 40, 3);
        crosses(y, 1, 43, 3);
        corners(y, 40, 43, 47);
        BorderBeds z = on(keeping(2, CHILD + AUNT));
        crosses(z, 1, 40, 1);
        crosses(z, 1, 41, 2);
        crosses(z, 0, 41, 2);
        crosses(z, 1, 42, 2);
        corners(z, 40, 42);
    }

    private static void childsByAge() {
        holds("Terms", "the oldest that a child made");
        BorderBeds x = on(keeping(2, CHILD + AUNT));
        crosses(x, 0, 40, 1);
        crosses(x, 0, 41, 2);
        crosses(x, 0, 40, 2);
        crosses(x, 1, 42, 2);
        corners(x, 40, 42);
    }

    private static void howManyThen() {
        holds("Promise 9", "One CROSSES to a CELL: how many CORNERS there are then.");
        BorderBeds x = on(keeping(3, TWIN + MONK + AUNT + CHILD));
        crosses(x, 1, 40, 0);
        crosses(x, 0, 40, 2);
        crosses(x, 0, 47, 2);
        crosses(x, 3, 41, 3);
        crosses(x, 2, 42, 3);
        corners(x, 40, 42, 47);
        crosses(x, 0, 43, 3);
        corners(x, 42, 43, 44);
        crosses(x, 1, 47, 3);
    }

    private static void actsKept() {
        holds("Terms", "ACTS (24 at most are kept");
        BorderBeds x = on(keeping(1, AUNT));
        for (int n = 1; n <= 24; n++) {
            crosses(x, 0, 40 + n % 8, 1);
            is("count(4)", x.count(4), n);
        }
        for (int n = 23; n >= 0; n--) {
            is("undo()", x.undo(), n);
            is("count(4)", x.count(4), n);
            is("cell of the CORNER", n == 0 ? x.count(2) : x.cell(40 + n % 8, 3), n == 0 ? 0 : 1);
        }
        is("undo()", x.undo(), STATE);
        lands(x, 0, 0, 40, 0);
    }

    private static void actForgotten() {
        holds("Terms", "of more the oldest is forgotten");
        BorderBeds x = on(keeping(6, AUNT + MONK));
        crosses(x, 0, 40, 1);
        for (int n = 1; n <= 23; n++) {
            crosses(x, 1, 47, 1);
        }
        is("count(4)", x.count(4), 24);
        crosses(x, 0, 42, 2);
        is("count(4)", x.count(4), 24);
        is("undo()", x.undo(), 23);
        corners(x, 40);
        for (int n = 22; n >= 0; n--) {
            is("undo()", x.undo(), n);
        }
        is("undo()", x.undo(), STATE);
        corners(x, 40);
    }

    /** Crosses and undoes by turns, beside a list of what the CORNER was ahead of each ACT. */
    private static void actsTurnRound() {
        holds("Terms", "each can be undone, the latest first");
        BorderBeds x = on(keeping(1, AUNT));
        List<Integer> ahead = new ArrayList<>();
        int corner = -1;
        int[] turns = {30, -10, 17, -24, 5, -3, 40, -20, 21, -24};
        for (int turn : turns) {
            for (int n = 0; n < Math.abs(turn); n++) {
                if (turn > 0) {
                    ahead.add(corner);
                    corner = 40 + (corner + 3 + n) % 8;
                    crosses(x, 0, corner, 1);
                } else {
                    corner = ahead.remove(ahead.size() - 1);
                    is("undo()", x.undo(), ahead.size());
                }
                if (ahead.size() > 24) {
                    ahead.remove(0);
                }
                is("whether the CORNER is " + corner,
                        corner < 0 ? 1 - x.count(2) : x.cell(corner, 3), 1);
            }
        }
        is("undo()", x.undo(), STATE);
    }

    private static void actsByWhichNothingComes() {
        holds("Terms", "also such by which nothing becomes another): one CROSSES.");
        BorderBeds x = on(keeping(1, MONK + AUNT + CHILD));
        crosses(x, 0, 40, 0);
        is("count(4): of a monk", x.count(4), 1);
        crosses(x, 1, 40, 1);
        crosses(x, 1, 40, 1);
        is("count(4): of the same CORNER", x.count(4), 3);
        crosses(x, 2, 41, 1);
        is("count(4): of a child's that goes at once", x.count(4), 4);
        is("undo()", x.undo(), 3);
        corners(x, 40);
        is("undo()", x.undo(), 2);
        corners(x, 40);
        is("undo()", x.undo(), 1);
        corners(x);
        is("undo()", x.undo(), 0);
        corners(x);
    }

    private static void refusedIsNoAct() {
        holds("Terms", "What is refused, or found, changes nothing but status().");
        BorderBeds x = on(keeping(1, "guard 1 1;" + AUNT + MONK));
        crosses(x, 0, 40, 1);
        crosses(x, 0, 9, STATE);
        crosses(x, 0, 0, STATE);
        crosses(x, 0, 48, BAD);
        crosses(x, 2, 40, BAD);
        is("count(4)", x.count(4), 1);
        corners(x, 40);
        is("undo()", x.undo(), 0);
        corners(x);
    }

    private static void undoBringsAgesBack() {
        holds("Promise 10", "The latest ACT is undone: how many can be undone yet.");
        BorderBeds x = on(keeping(2, AUNT + CHILD));
        crosses(x, 0, 40, 1);
        crosses(x, 0, 41, 2);
        crosses(x, 0, 40, 2);
        is("undo()", x.undo(), 2);
        crosses(x, 0, 42, 2);
        corners(x, 41, 42);
        is("undo(): what went comes back", x.undo(), 2);
        corners(x, 40, 41);
        BorderBeds y = on(keeping(2, AUNT + CHILD));
        crosses(y, 0, 40, 1);
        crosses(y, 1, 42, 2);
        crosses(y, 0, 42, 2);
        is("undo(): the child's again", y.undo(), 2);
        crosses(y, 0, 43, 2);
        corners(y, 40, 43);
    }

    private static void undoNone() {
        holds("Promise 10", "STATE: none.");
        BorderBeds x = new BorderBeds();
        is("undo(): no GROUND", x.undo(), STATE);
        read(x, keeping(1, AUNT));
        is("undo(): no ACT yet", x.undo(), STATE);
        crosses(x, 0, 40, 1);
        is("undo()", x.undo(), 0);
        is("undo(): all undone", x.undo(), STATE);
        crosses(x, 0, 40, 1);
        read(x, "?");
        is("undo(): a FAULT leaves it", x.undo(), 0);
        crosses(x, 0, 40, 1);
        read(x, keeping(1, AUNT));
        is("undo(): a new GROUND", x.undo(), STATE);
    }

    private static void image() {
        holds("Promise 19", "An IMAGE (0, 1) is kept of the GROUND: 1.");
        BorderBeds x = on("posts 2 2 2;village 1 1 5;guard 3 3;" + AUNT);
        crosses(x, 0, 40, 1);
        is("image(0)", x.image(0), 1);
        is("count(4): the ACT can be undone yet", x.count(4), 1);
        corners(x, 40);
        crosses(x, 0, 41, 2);
        is("image(1)", x.image(1), 1);
        read(x, "posts 5 5 1;");
        is("restore(0)", x.restore(0), 1);
        corners(x, 40);
        is("cell(9, 2)", x.cell(9, 2), 5);
        is("cell(27, 1)", x.cell(27, 1), 1);
        is("kind(0)", x.kind(0), 1);
        is("restore(1)", x.restore(1), 1);
        corners(x, 40, 41);
        crosses(x, 0, 42, 2);
        is("restore(1): an IMAGE does not change with the line", x.restore(1), 1);
        corners(x, 40, 41);
        is("restore(0)", x.restore(0), 1);
        corners(x, 40);
    }

    private static void imageRefused() {
        holds("Promise 19", "BAD; STATE: no GROUND.");
        BorderBeds x = new BorderBeds();
        is("image(-1): BAD and STATE", x.image(-1), BAD);
        is("image(2): BAD and STATE", x.image(2), BAD);
        is("image(min)", x.image(MIN), BAD);
        is("image(max)", x.image(MAX), BAD);
        is("image(0)", x.image(0), STATE);
        is("image(1)", x.image(1), STATE);
        read(x, FLAT);
        is("restore(0): what was refused kept none", x.restore(0), STATE);
        is("image(-1)", x.image(-1), BAD);
        is("image(0)", x.image(0), 1);
        is("image(1)", x.image(1), 1);
        is("image(2)", x.image(2), BAD);
    }

    private static void imageInPlace() {
        holds("Promise 19", "An IMAGE (0, 1) is kept of the GROUND: 1.");
        BorderBeds x = on(keeping(6, AUNT));
        x.image(0);
        x.image(1);
        crosses(x, 0, 40, 1);
        is("image(0): in place of the one before", x.image(0), 1);
        x.restore(1);
        corners(x);
        x.restore(0);
        corners(x, 40);
    }

    private static void restoreNoAct() {
        holds("Promise 20", "The GROUND is as an IMAGE kept it (no ACT can be undone then): 1.");
        BorderBeds x = on(keeping(6, AUNT + MONK));
        crosses(x, 0, 40, 1);
        crosses(x, 1, 40, 1);
        x.image(1);
        crosses(x, 0, 41, 2);
        is("restore(1)", x.restore(1), 1);
        is("count(4)", x.count(4), 0);
        is("undo()", x.undo(), STATE);
        corners(x, 40);
        crosses(x, 0, 42, 2);
        is("undo(): of the ACTS behind it", x.undo(), 0);
        corners(x, 40);
        is("undo()", x.undo(), STATE);
    }

    private static void restoreAges() {
        holds("Promise 20", "The GROUND is as an IMAGE kept it");
        BorderBeds x = on(keeping(2, AUNT + CHILD));
        crosses(x, 0, 41, 1);
        crosses(x, 0, 40, 2);
        x.image(0);
        crosses(x, 0, 41, 2);
        x.restore(0);
        crosses(x, 0, 42, 2);
        corners(x, 40, 42);
        x.restore(0);
        x.undo();
        crosses(x, 0, 40, 2);
        read(x, keeping(2, AUNT + CHILD));
        crosses(x, 0, 41, 1);
        crosses(x, 1, 40, 2);
        x.image(1);
        read(x, FLAT);
        x.restore(1);
        crosses(x, 0, 42, 2);
        corners(x, 41, 42);
        is("count(6): the tape is no part of it", x.count(6), 0);
    }

    private static void restoreRefused() {
        holds("Promise 20", "BAD; STATE: none was kept.");
        BorderBeds x = new BorderBeds();
        is("restore(-1): BAD and STATE", x.restore(-1), BAD);
        is("restore(2): BAD and STATE", x.restore(2), BAD);
        is("restore(min)", x.restore(MIN), BAD);
        is("restore(max)", x.restore(MAX), BAD);
        is("restore(0)", x.restore(0), STATE);
        read(x, keeping(6, AUNT));
        crosses(x, 0, 40, 1);
        is("restore(0)", x.restore(0), STATE);
        is("restore(1)", x.restore(1), STATE);
        x.image(1);
        crosses(x, 0, 41, 2);
        is("restore(0): the other one is not kept", x.restore(0), STATE);
        corners(x, 40, 41);
        is("count(4)", x.count(4), 2);
        is("restore(1)", x.restore(1), 1);
    }
}
