/** The sentences of what is FORETOLD: "Terms" 3, and promises 14 to 18. */
final class ForetoldSentences extends Sentences {
    /** A village that the south is to get, one of the south who can, some who can't. */
    private static final String VILLAGE = "posts 2 2 6;village 3 3 5;person aunt 0 3 2 2;"
            + "person aunt 1 3 4 0;person aunt 0 3 0 0;person aunt 1 3 4 2;person aunt 1 4 4 1;";

    static void all() {
        bestNone();
        bestLead();
        bestHas();
        bestLeastCell();
        bestBehindEviction();
        bestRefused();
        answerBehindBest();
        answerFirstHasNone();
        answerNone();
        answerOfOneLand();
        answerRefused();
        gameStays();
        gameLeastOfLike();
        firstAndLastCell();
        gameOtherGoes();
        gameOtherStays();
        gameOtherHasNone();
        gameRefused();
        heldBelow();
        heldOtherLand();
        heldIth();
        heldRefused();
        wentEdges();
        wentColumns();
        wentNow();
        wentFirst();
        wentByOneCrossing();
        wentItems();
        wentRefused();
    }

    private static void best(BorderBeds x, int person, int cell, int lead) {
        is("best(" + person + ", 0)", x.best(person, 0), cell);
        is("best(" + person + ", 1)", x.best(person, 1), lead);
    }

    private static void answer(BorderBeds x, int a, int b, int cell, int lead) {
        is("answer(" + a + ", " + b + ", 0)", x.answer(a, b, 0), cell);
        is("answer(" + a + ", " + b + ", 1)", x.answer(a, b, 1), lead);
    }

    private static void game(BorderBeds x, int a, int b, int cell, int lead) {
        is("game(" + a + ", " + b + ", 0)", x.game(a, b, 0), cell);
        is("game(" + a + ", " + b + ", 1)", x.game(a, b, 1), lead);
    }

    private static void unchanged(BorderBeds x, int corners, int acts) {
        is("count(2): nothing changes", x.count(2), corners);
        is("count(4): nothing changes", x.count(4), acts);
        is("undo()", x.undo(), acts == 0 ? STATE : acts - 1);
    }

    private static void bestNone() {
        holds("Terms", "NONE: there is no such CELL");
        BorderBeds x = on("posts 2 2 6;village 3 3 9;guard 3 4;person aunt 0 3 0 0;"
                + "person aunt 0 3 4 0;person envoy 1 3 5 1;person monk 1 7 5 0;");
        for (int who = 0; who < 4; who++) {
            best(x, who, NONE, NONE);
            is("person(who, 3)", x.person(who, 3), 0);
        }
        unchanged(x, 0, 0);
    }

    private static void bestLead() {
        holds("Terms", "BEST of one: to which CELL he is to CROSS, so that LEAD of his LAND is most"
                + " then");
        BorderBeds x = on(VILLAGE);
        best(x, 0, 35, 5);
        best(x, 3, 19, 5);
        unchanged(x, 0, 0);
        BorderBeds y = on("posts 2 2 6;village 0 3 10;village 7 3 11;person aunt 0 0 3 0;"
                + "person aunt 0 1 3 7;person aunt 0 0 4 7;");
        best(y, 0, 24, -11);
        best(y, 1, 46, 1);
        best(y, 2, 46, 1);
        unchanged(y, 0, 0);
    }

    private static void bestHas() {
        holds("Terms", "of like ones HAS of it");
        BorderBeds x = on(FLAT + "person aunt 0 0 0 1;person aunt 0 7 0 1;");
        best(x, 0, 8, 0);
        best(x, 1, 15, 0);
        BorderBeds y = on("posts 5 5 6;person aunt 1 7 5 1;person aunt 1 0 5 1;");
        best(y, 0, 39, 0);
        best(y, 1, 32, 0);
        unchanged(y, 0, 0);
    }

    private static void bestLeastCell() {
        holds("Terms", "of like ones the least CELL");
        BorderBeds x = on(FLAT + "guard 0 0;person monk 0 0 0 2;person monk 1 7 0 2;"
                + "person twin 0 7 5 1;person twin 0 0 5 1;");
        best(x, 0, 1, 0);
        best(x, 1, 5, 0);
        best(x, 2, 47, 0);
        best(x, 3, 40, 0);
        BorderBeds y = on(FLAT + "person twin 0 7 5 13;person twin 0 7 5 0;person aunt 0 3 0 0;");
        best(y, 0, 40, 0);
        best(y, 1, 47, 0);
        best(y, 2, 3, 0);
        unchanged(y, 0, 0);
    }

    /** The north's CORNER in the west goes when its aunt sleeps in the east: a loss for her. */
    private static BorderBeds evicted() {
        BorderBeds x = on("posts 3 3 1;village 1 1 50;person aunt 1 6 2 0;person envoy 1 1 5 5;"
                + "person aunt 0 0 0 0;person monk 1 6 2 0;");
        crosses(x, 1, 1, 1);
        lands(x, 14, 0, 33, 50);
        return x;
    }

    private static void bestBehindEviction() {
        holds("Terms", "what LEAD is then");
        BorderBeds x = evicted();
        best(x, 0, 22, -50);
        best(x, 3, 22, 50);
        best(x, 2, NONE, NONE);
        unchanged(x, 1, 1);
    }

    private static void bestRefused() {
        holds("Promise 14", "BEST: the CELL (what = 0), LEAD (1); NONE. BAD.");
        BorderBeds x = on(FLAT + "person aunt 0 0 0 0;");
        best(x, 0, 0, 0);
        is("best(0, -1)", x.best(0, -1), BAD);
        is("best(0, 2)", x.best(0, 2), BAD);
        is("best(-1, 0)", x.best(-1, 0), BAD);
        is("best(1, 0)", x.best(1, 0), BAD);
        is("best(min, 0)", x.best(MIN, 0), BAD);
        is("best(max, 0)", x.best(MAX, 0), BAD);
        is("best(0, min)", x.best(0, MIN), BAD);
        is("best(0, max)", x.best(0, MAX), BAD);
        BorderBeds y = on("posts 2 2 6;person aunt 0 0 0 0;");
        is("best(0, 2): BAD, though there is no CELL", y.best(0, 2), BAD);
        is("best(0, 0)", new BorderBeds().best(0, 0), BAD);
    }

    private static void answerBehindBest() {
        holds("Terms", "ANSWER of another one: his BEST behind the BEST of the first");
        BorderBeds x = on(VILLAGE);
        answer(x, 0, 3, 19, 5);
        answer(x, 0, 4, 28, -5);
        answer(x, 3, 0, 35, 5);
        unchanged(x, 0, 0);
    }

    private static void answerFirstHasNone() {
        holds("Terms", "(if there is one)");
        BorderBeds x = on(VILLAGE);
        best(x, 2, NONE, NONE);
        answer(x, 2, 0, 35, 5);
        answer(x, 2, 3, 19, 5);
        BorderBeds y = evicted();
        answer(y, 2, 0, 22, -50);
        unchanged(y, 1, 1);
    }

    private static void answerNone() {
        holds("Promise 15", "ANSWER of b to a: the CELL (what = 0), LEAD of his LAND (1); NONE.");
        BorderBeds x = on(VILLAGE);
        answer(x, 0, 2, NONE, NONE);
        answer(x, 3, 2, NONE, NONE);
        answer(x, 3, 1, NONE, NONE);
        answer(x, 0, 1, 35, -5);
        answer(x, 1, 2, NONE, NONE);
        unchanged(x, 0, 0);
    }

    private static void answerOfOneLand() {
        holds("Terms", "ANSWER of another one: his BEST behind the BEST of the first");
        BorderBeds x = on("posts 2 2 1;village 0 3 10;village 7 3 10;person aunt 0 0 4 0;"
                + "person aunt 0 7 4 0;");
        best(x, 0, 32, 0);
        best(x, 1, 39, 0);
        answer(x, 0, 1, 39, 0);
        BorderBeds y = on("posts 2 2 2;village 0 3 10;village 7 3 10;person aunt 0 0 4 0;"
                + "person aunt 0 7 4 0;");
        answer(y, 0, 1, 39, 20);
        answer(y, 1, 0, 32, 20);
        unchanged(y, 0, 0);
    }

    private static void answerRefused() {
        holds("Promise 15", "BAD: alike, too.");
        BorderBeds x = on(FLAT + "person aunt 0 0 0 0;person aunt 1 0 0 0;");
        answer(x, 0, 1, 0, 0);
        answer(x, 1, 0, 0, 0);
        is("answer(0, 0, 0)", x.answer(0, 0, 0), BAD);
        is("answer(1, 1, 1)", x.answer(1, 1, 1), BAD);
        is("answer(-1, 0, 0)", x.answer(-1, 0, 0), BAD);
        is("answer(2, 0, 0)", x.answer(2, 0, 0), BAD);
        is("answer(0, -1, 0)", x.answer(0, -1, 0), BAD);
        is("answer(0, 2, 0)", x.answer(0, 2, 0), BAD);
        is("answer(-1, -1, 0)", x.answer(-1, -1, 0), BAD);
        is("answer(min, max, 0)", x.answer(MIN, MAX, 0), BAD);
        is("answer(0, 1, -1)", x.answer(0, 1, -1), BAD);
        is("answer(0, 1, 2)", x.answer(0, 1, 2), BAD);
        is("answer(0, 1, max)", x.answer(0, 1, MAX), BAD);
        is("answer(0, 1, 0)", new BorderBeds().answer(0, 1, 0), BAD);
    }

    private static void gameStays() {
        holds("Terms", "the first CROSSES to a CELL, or does not (-1)");
        BorderBeds x = on(VILLAGE);
        game(x, 2, 1, -1, -5);
        game(x, 2, 0, -1, 5);
        BorderBeds y = evicted();
        game(y, 0, 2, -1, 50);
        game(y, 2, 1, -1, -50);
        unchanged(y, 1, 1);
        BorderBeds z = on(FLAT + "person aunt 0 0 0 13;person aunt 1 7 5 13;");
        game(z, 0, 1, -1, 0);
        game(z, 1, 0, -1, 0);
    }

    private static void gameLeastOfLike() {
        holds("Terms", "to which CELL (-1 first) the first is to go, so that LEAD of his LAND is"
                + " most then, of like ones the least");
        BorderBeds x = on("posts 2 2 6;village 3 3 5;person aunt 0 3 5 1;person aunt 1 7 5 0;");
        best(x, 0, 43, 5);
        game(x, 0, 1, 35, 5);
        BorderBeds y = on("posts 2 2 6;village 3 1 5;person aunt 1 3 0 1;person aunt 0 0 0 0;");
        best(y, 0, 2, 5);
        game(y, 0, 1, 2, 5);
        unchanged(y, 0, 0);
    }

    private static void firstAndLastCell() {
        holds("Terms", "to which CELL he is to CROSS");
        BorderBeds x = on("posts 2 2 6;village 0 1 5;village 7 4 7;person aunt 1 0 0 0;"
                + "person aunt 0 7 5 0;person aunt 0 7 0 0;");
        best(x, 0, 0, 12);
        best(x, 1, 47, 12);
        answer(x, 0, 1, 47, 2);
        answer(x, 1, 0, 0, -2);
        game(x, 0, 2, 0, 12);
        game(x, 1, 2, 47, 12);
        is("held(0, 5, 0)", x.held(0, 5, 0), 0);
        is("held(1, 7, 0)", x.held(1, 7, 0), 47);
        unchanged(x, 0, 0);
    }

    private static void gameOtherGoes() {
        holds("Terms", "then the other one does his BEST, if LEAD of his own LAND is more by that"
                + " than without it");
        BorderBeds x = on(VILLAGE);
        game(x, 0, 3, -1, -5);
        game(x, 2, 0, -1, 5);
        BorderBeds y = on("posts 2 2 2;village 0 3 10;village 7 3 10;person aunt 0 0 4 0;"
                + "person aunt 0 7 4 0;");
        game(y, 0, 1, 32, 20);
        game(y, 1, 0, 39, 20);
        unchanged(y, 0, 0);
    }

    private static void gameOtherStays() {
        holds("Terms", "if LEAD of his own LAND is more by that than without it, else nothing");
        BorderBeds x = evicted();
        game(x, 2, 0, -1, -50);
        game(x, 2, 3, -1, -50);
        game(x, 1, 0, -1, 50);
        unchanged(x, 1, 1);
        BorderBeds y = on("posts 2 2 1;village 0 3 10;village 7 3 10;person aunt 0 0 4 0;"
                + "person aunt 0 7 4 0;");
        game(y, 0, 1, -1, 0);
        game(y, 1, 0, -1, 0);
    }

    private static void gameOtherHasNone() {
        holds("Promise 16", "GAME of a and b: the CELL, -1 (what = 0), LEAD (1).");
        BorderBeds x = on(VILLAGE);
        game(x, 0, 1, 35, 5);
        game(x, 0, 2, 35, 5);
        game(x, 1, 2, -1, 5);
        unchanged(x, 0, 0);
    }

    private static void gameRefused() {
        holds("Promise 16", "BAD: alike, too.");
        BorderBeds x = on(FLAT + "person aunt 0 0 0 0;person aunt 1 0 0 0;");
        game(x, 0, 1, -1, 0);
        game(x, 1, 0, -1, 0);
        is("game(0, 0, 0)", x.game(0, 0, 0), BAD);
        is("game(1, 1, 1)", x.game(1, 1, 1), BAD);
        is("game(-1, 0, 0)", x.game(-1, 0, 0), BAD);
        is("game(2, 0, 0)", x.game(2, 0, 0), BAD);
        is("game(0, -1, 0)", x.game(0, -1, 0), BAD);
        is("game(0, 2, 0)", x.game(0, 2, 0), BAD);
        is("game(2, 2, 0)", x.game(2, 2, 0), BAD);
        is("game(max, min, 0)", x.game(MAX, MIN, 0), BAD);
        is("game(0, 1, -1)", x.game(0, 1, -1), BAD);
        is("game(0, 1, 2)", x.game(0, 1, 2), BAD);
        is("game(0, 1, min)", x.game(0, 1, MIN), BAD);
        is("game(0, 1, 0)", new BorderBeds().game(0, 1, 0), BAD);
    }

    private static void heldBelow() {
        holds("Terms", "so that WORTH of a told LAND is below a told number then");
        BorderBeds x = on("posts 2 2 6;village 3 1 5;person aunt 1 3 4 4;");
        is("held(0, 0, -1)", x.held(0, 0, -1), 0);
        is("held(0, 1, -1): 0 is below 1", x.held(0, 1, -1), 2);
        is("held(0, 5, -1): 5 is not below 5", x.held(0, 5, -1), 2);
        is("held(0, 6, -1): 5 is below 6", x.held(0, 6, -1), 9);
        is("held(0, 999, -1)", x.held(0, 999, -1), 9);
        is("person(0, 3)", x.person(0, 3), 9);
        BorderBeds y = on("posts 2 2 6;" + "village 0 0 99;".repeat(8) + "person aunt 1 7 2 0;");
        is("held(0, 792, -1)", y.held(0, 792, -1), 0);
        is("held(0, 793, -1)", y.held(0, 793, -1), 1);
        unchanged(y, 0, 0);
    }

    private static void heldOtherLand() {
        holds("Terms", "CELLS to which one of the other LAND may CROSS");
        BorderBeds x = on("posts 2 2 6;guard 3 0;person aunt 0 3 3 0;person aunt 1 3 1 1;"
                + "person monk 1 3 0 1;");
        is("held(1, 1, -1): of the south one", x.held(1, 1, -1), 1);
        is("held(1, 1, 0)", x.held(1, 1, 0), 27);
        is("held(0, 1, -1): of the north two, each CELL once", x.held(0, 1, -1), 6);
        int[] cells = {2, 4, 10, 11, 12, 19};
        for (int i = 0; i < 6; i++) {
            is("held(0, 1, " + i + ")", x.held(0, 1, i), cells[i]);
        }
        is("held(0, 1, 6)", x.held(0, 1, 6), NONE);
        BorderBeds y = on("posts 2 2 6;person aunt 0 3 3 13;");
        is("held(0, 999, -1): nobody of the north", y.held(0, 999, -1), 0);
        is("held(0, 999, 0)", y.held(0, 999, 0), NONE);
        is("held(0, 999, -1): no PEOPLE", on(FLAT).held(0, 999, -1), 0);
        is("held(1, 999, 0): no PEOPLE", on(FLAT).held(1, 999, 0), NONE);
        unchanged(x, 0, 0);
    }

    private static void heldIth() {
        holds("Terms", "how many; the i-th, the least first; NONE: not so many.");
        BorderBeds x = on("posts 2 2 6;village 3 1 5;person aunt 1 3 4 4;person monk 1 0 0 1;");
        is("held(0, 5, -1)", x.held(0, 5, -1), 2);
        is("held(0, 5, 0)", x.held(0, 5, 0), 3);
        is("held(0, 5, 1)", x.held(0, 5, 1), 11);
        is("held(0, 5, 2)", x.held(0, 5, 2), NONE);
        is("held(0, 5, max)", x.held(0, 5, MAX), NONE);
        BorderBeds y = on(FLAT + "person aunt 0 0 0 13;");
        is("held(1, 1, -1)", y.held(1, 1, -1), 48);
        is("held(1, 1, 0)", y.held(1, 1, 0), 0);
        is("held(1, 1, 47)", y.held(1, 1, 47), 47);
        is("held(1, 1, 48)", y.held(1, 1, 48), NONE);
    }

    private static void heldRefused() {
        holds("Promise 17", "BAD (also i below -1); STATE: no GROUND (ahead of BAD).");
        BorderBeds x = new BorderBeds();
        is("held(0, 0, -1)", x.held(0, 0, -1), STATE);
        is("held(2, 0, -1): STATE and BAD", x.held(2, 0, -1), STATE);
        is("held(0, 1000, -2): STATE and BAD", x.held(0, 1000, -2), STATE);
        read(x, FLAT);
        holds("Promise 17", "HELD of a LAND and a number (0 to 999): how many (i = -1), the i-th;"
                + " NONE.");
        is("held(-1, 0, -1)", x.held(-1, 0, -1), BAD);
        is("held(0, 0, -1)", x.held(0, 0, -1), 0);
        is("held(1, 0, -1)", x.held(1, 0, -1), 0);
        is("held(2, 0, -1)", x.held(2, 0, -1), BAD);
        is("held(0, -1, -1)", x.held(0, -1, -1), BAD);
        is("held(0, 999, -1)", x.held(0, 999, -1), 0);
        is("held(0, 1000, -1)", x.held(0, 1000, -1), BAD);
        is("held(0, 0, -2)", x.held(0, 0, -2), BAD);
        is("held(0, 0, min)", x.held(0, 0, MIN), BAD);
        is("held(0, 0, 0)", x.held(0, 0, 0), NONE);
        is("held(min, 0, 0)", x.held(MIN, 0, 0), BAD);
        is("held(max, 0, 0)", x.held(MAX, 0, 0), BAD);
        is("held(0, min, 0)", x.held(0, MIN, 0), BAD);
        is("held(0, max, 0)", x.held(0, MAX, 0), BAD);
    }

    private static void went(BorderBeds x, int row, int i, int ways, int first, int now) {
        is("went(" + row + ", " + i + ", 0)", x.went(row, i, 0), ways);
        is("went(" + row + ", " + i + ", 1)", x.went(row, i, 1), first);
        is("went(" + row + ", " + i + ", 2)", x.went(row, i, 2), now);
    }

    private static void wentEdges() {
        holds("Promise 18", "WENT, 8 ITEMS of a ROW from i on: how many (what = 0), the first (1;"
                + " NONE), whether it is so now (2).");
        BorderBeds x = on("posts 2 2 6;person aunt 0 3 3 0;");
        x.row(0, 0, 8);
        x.row(1, 1, 40);
        x.row(2, 2, 7);
        x.row(3, 2, 0);
        put(x, 0, 0, 2, 2, 2, 2, 2, 2, 2, 2);
        put(x, 1, 32, 3, 3, 3, 3, 3, 3, 3, 3);
        is("went(0, -1, 2)", x.went(0, -1, 2), PLACE);
        went(x, 0, 0, 0, NONE, 1);
        is("went(0, 1, 2)", x.went(0, 1, 2), PLACE);
        is("went(1, -1, 0)", x.went(1, -1, 0), PLACE);
        went(x, 1, 0, 0, NONE, 0);
        went(x, 1, 32, 1, 27, 0);
        is("went(1, 33, 0)", x.went(1, 33, 0), PLACE);
        is("went(1, 40, 0)", x.went(1, 40, 0), PLACE);
        is("went(1, max, 0)", x.went(1, MAX, 0), PLACE);
        is("went(1, min, 0)", x.went(1, MIN, 0), PLACE);
        is("went(2, 0, 0): seven ITEMS", x.went(2, 0, 0), PLACE);
        is("went(2, -1, 0)", x.went(2, -1, 0), PLACE);
        is("went(3, 0, 0): none", x.went(3, 0, 0), PLACE);
        unchanged(x, 0, 0);
    }

    private static void wentColumns() {
        holds("Terms", "WENT: a row tells of each column, from x 0 on, how many CELLS of it the"
                + " south HAS in the morning");
        BorderBeds x = on("posts 5 5 6;guard 7 5;person aunt 1 0 0 0;");
        crosses(x, 0, 0, 1);
        souths(x, 0, 1, 2, 2, 3, 4, 4, 5);
        row(x, 0, 0, 1, 2, 2, 3, 4, 4, 5);
        row(x, 1, 5, 4, 4, 3, 2, 2, 1, 0);
        row(x, 2, 5, 5, 5, 5, 5, 5, 5, 5);
        went(x, 0, 0, 1, 0, 1);
        went(x, 1, 0, 0, NONE, 0);
        went(x, 2, 0, 0, NONE, 0);
        x.undo();
        went(x, 0, 0, 1, 0, 0);
        went(x, 2, 0, 0, NONE, 1);
    }

    private static void wentNow() {
        holds("Terms", "whether it is so now (1, 0)");
        BorderBeds x = on("posts 0 5 6;person monk 0 0 0 13;");
        row(x, 0, 1, 2, 2, 3, 3, 4, 4, 5);
        went(x, 0, 0, 24, 8, 1);
        int[] souths = {1, 2, 2, 3, 3, 4, 4, 5};
        for (int column = 0; column < 8; column++) {
            x.set(0, column, souths[column] - 1);
            went(x, 0, 0, 0, NONE, 0);
            x.set(0, column, souths[column] + 1);
            went(x, 0, 0, 0, NONE, 0);
            x.set(0, column, souths[column]);
        }
        went(x, 0, 0, 24, 8, 1);
        is("went(0, 0, 2): no PEOPLE are wanted", noPeople().went(0, 0, 2), 1);
    }

    private static BorderBeds noPeople() {
        BorderBeds x = on("posts 0 5 6;");
        row(x, 0, 1, 2, 2, 3, 3, 4, 4, 5);
        went(x, 0, 0, 0, NONE, 1);
        return x;
    }

    private static void wentFirst() {
        holds("Terms", "the first: 48 times who, and the CELL; NONE");
        BorderBeds x = on(FLAT + "guard 0 0;person aunt 0 0 0 0;person twin 0 7 5 0;"
                + "person twin 0 0 5 0;person aunt 0 7 5 0;person aunt 0 6 5 0;");
        row(x, 0, 5, 5, 5, 5, 5, 5, 5, 5);
        went(x, 0, 0, 2, 48 + 47, 0);
        row(x, 1, 1, 2, 2, 3, 4, 4, 5, 5);
        went(x, 1, 0, 1, 3 * 48 + 47, 0);
        row(x, 2, 1, 2, 3, 3, 4, 5, 5, 3);
        went(x, 2, 0, 1, 4 * 48 + 46, 0);
        row(x, 3, 0, 0, 0, 0, 0, 0, 0, 0);
        went(x, 3, 0, 0, NONE, 1);
        BorderBeds z = on(FLAT + "person aunt 0 0 0 0;person aunt 1 0 5 0;person aunt 1 0 5 0;"
                + "person aunt 1 0 5 0;person aunt 0 7 5 0;");
        row(z, 0, 0, 0, 0, 0, 0, 0, 0, 0);
        went(z, 0, 0, 1, 0, 1);
        row(z, 1, 1, 2, 2, 3, 4, 4, 5, 5);
        went(z, 1, 0, 1, 239, 0);
        BorderBeds y = on(FLAT + "person monk 0 0 0 13;person monk 1 0 0 13;");
        row(y, 0, 0, 0, 0, 0, 0, 0, 0, 0);
        went(y, 0, 0, 48 + 8, 0, 1);
        unchanged(y, 0, 0);
    }

    private static void wentByOneCrossing() {
        holds("Terms", "how many ways there are (one who may CROSS, a CELL) by one CROSSING that it"
                + " is so");
        BorderBeds x = on(FLAT + "person aunt 0 0 5 0;person aunt 0 7 5 0;");
        row(x, 0, 5, 5, 5, 5, 5, 5, 5, 5);
        went(x, 0, 0, 0, NONE, 0);
        crosses(x, 1, 47, 1);
        went(x, 0, 0, 1, 40, 0);
        crosses(x, 0, 40, 2);
        went(x, 0, 0, 2, 40, 1);
        unchanged(x, 2, 2);
    }

    private static void wentItems() {
        holds("Promise 18", "then BAD: an ITEM not 0 to 6.");
        BorderBeds x = on(FLAT + "person aunt 0 0 5 0;");
        row(x, 0, 7, 0, 0, 0, 0, 0, 0, 0, 0, -1);
        went(x, 0, 1, 0, NONE, 1);
        int[] bad = {-1, 7, MIN, MAX, -1000015};
        for (int i = 1; i <= 8; i++) {
            x.set(0, i, 6);
            went(x, 0, 1, 0, NONE, 0);
            for (int v : bad) {
                x.set(0, i, v);
                is("went(0, 1, 0): ITEM " + i + " is " + v, x.went(0, 1, 0), BAD);
                is("went(0, 1, 1): ITEM " + i + " is " + v, x.went(0, 1, 1), BAD);
                is("went(0, 1, 2): ITEM " + i + " is " + v, x.went(0, 1, 2), BAD);
            }
            x.set(0, i, 0);
        }
        is("went(0, 0, 2): the ITEM ahead", x.went(0, 0, 2), BAD);
        is("went(0, 2, 2): the ITEM behind", x.went(0, 2, 2), BAD);
        is("went(0, 3, 2): PLACE and BAD", x.went(0, 3, 2), PLACE);
    }

    private static void wentRefused() {
        holds("Promise 18", "BAD: ROW, what; STATE: no GROUND (ahead of BAD); NULL; PLACE; then"
                + " BAD");
        BorderBeds x = new BorderBeds();
        is("went(0, 0, 0): STATE and NULL", x.went(0, 0, 0), STATE);
        is("went(-1, 0, 0): STATE and BAD", x.went(-1, 0, 0), STATE);
        is("went(8, 0, 3): STATE and BAD", x.went(8, 0, 3), STATE);
        x.row(0, 0, 7);
        is("went(0, 0, 0): STATE and PLACE", x.went(0, 0, 0), STATE);
        read(x, FLAT);
        is("went(-1, 0, 0)", x.went(-1, 0, 0), BAD);
        is("went(8, 0, 0)", x.went(8, 0, 0), BAD);
        is("went(min, 0, 0)", x.went(MIN, 0, 0), BAD);
        is("went(max, 0, 0)", x.went(MAX, 0, 0), BAD);
        is("went(0, 0, -1): BAD and PLACE", x.went(0, 0, -1), BAD);
        is("went(0, 0, 3): BAD and PLACE", x.went(0, 0, 3), BAD);
        is("went(1, 0, 3): BAD and NULL", x.went(1, 0, 3), BAD);
        is("went(1, 0, min): BAD and NULL", x.went(1, 0, MIN), BAD);
        is("went(1, 0, 0)", x.went(1, 0, 0), NULL);
        is("went(7, -1, 0): NULL and PLACE", x.went(7, -1, 0), NULL);
        is("went(0, 0, 0)", x.went(0, 0, 0), PLACE);
        x.row(7, 0, 8);
        is("went(7, 0, 0)", x.went(7, 0, 0), 0);
        is("went(7, 0, 2)", x.went(7, 0, 2), 1);
        is("went(7, 0, 3)", x.went(7, 0, 3), BAD);
    }
}
