/** The sentences of ROWS: "Terms" 1, and promises 2 to 5. */
final class RowSentences extends Sentences {
    static void all() {
        missingAtFirst();
        lanes();
        items();
        itemsAreNothingAtFirst();
        rowInPlace();
        rowRefused();
        rowFound();
        setCutsBytes();
        setCutsShorts();
        setCutsNothingOfInts();
        setCutsForGood();
        setRefused();
        copyAsTheyWere();
        copyWithin();
        copyBetween();
        copyEdges();
        copyRefused();
        copyFound();
        drop();
        dropRefused();
    }

    private static void missingAtFirst() {
        holds("Terms", "ROWS 0 .. 7 are missing (at first)");
        BorderBeds x = new BorderBeds();
        for (int row = 0; row < 8; row++) {
            is("drop(" + row + ")", x.drop(row), NULL);
            is("set(" + row + ", 0, 0)", x.set(row, 0, 0), NULL);
            is("copy(" + row + ", 0, " + row + ", 0, 0)", x.copy(row, 0, row, 0, 0), NULL);
        }
        is("count(0)", x.count(0), 0);
        for (int row = 0; row < 8; row++) {
            is("row(" + row + ", 0, 1)", x.row(row, 0, 1), 1);
            is("count(0)", x.count(0), row + 1);
        }
        is("drop(8)", x.drop(8), BAD);
        is("drop(-1)", x.drop(-1), BAD);
    }

    private static void lanes() {
        holds("Terms", "have a LANE (0 bytes, 1 shorts, 2 ints)");
        BorderBeds x = new BorderBeds();
        is("row(0, -1, 1)", x.row(0, -1, 1), BAD);
        is("row(0, 0, 1)", x.row(0, 0, 1), 1);
        is("set(0, 0, 65664)", x.set(0, 0, 65664), -128);
        is("row(0, 1, 1)", x.row(0, 1, 1), 1);
        is("set(0, 0, 98304)", x.set(0, 0, 98304), -32768);
        is("row(0, 2, 1)", x.row(0, 2, 1), 1);
        is("set(0, 0, 98304)", x.set(0, 0, 98304), 98304);
        is("row(0, 3, 1)", x.row(0, 3, 1), BAD);
    }

    private static void items() {
        holds("Terms", "and 0 to 40 ITEMS");
        BorderBeds x = new BorderBeds();
        is("row(0, 0, 0)", x.row(0, 0, 0), 0);
        is("set(0, 0, 1)", x.set(0, 0, 1), PLACE);
        is("drop(0)", x.drop(0), 0);
        is("row(0, 0, 40)", x.row(0, 0, 40), 40);
        is("set(0, 39, 1)", x.set(0, 39, 1), 1);
        is("set(0, 40, 1)", x.set(0, 40, 1), PLACE);
        is("row(0, 0, 41)", x.row(0, 0, 41), BAD);
        is("drop(0)", x.drop(0), 40);
    }

    private static void itemsAreNothingAtFirst() {
        holds("Terms", "0 at first");
        BorderBeds x = on(FLAT);
        for (int lane = 0; lane < 3; lane++) {
            x.row(lane, lane, 40);
            for (int i = 0; i <= 32; i += 8) {
                is("went(" + lane + ", " + i + ", 2)", x.went(lane, i, 2), 1);
            }
        }
    }

    private static void rowInPlace() {
        holds("Promise 2", "A ROW of a LANE with n ITEMS, in place of what is there: n.");
        BorderBeds x = on(FLAT);
        row(x, 3, 6, 6, 6, 6, 6, 6, 6, 70000);
        is("went(3, 0, 2): an ITEM beyond 6", x.went(3, 0, 2), BAD);
        is("row(3, 2, 8): of the same LANE", x.row(3, 2, 8), 8);
        is("went(3, 0, 2): all 0", x.went(3, 0, 2), 1);
        put(x, 3, 0, 6, 6, 6, 6, 6, 6, 6, 6);
        is("row(3, 0, 9): longer, of another LANE", x.row(3, 0, 9), 9);
        is("went(3, 0, 2)", x.went(3, 0, 2), 1);
        is("went(3, 1, 2)", x.went(3, 1, 2), 1);
        is("set(3, 8, 300)", x.set(3, 8, 300), 44);
        is("row(3, 1, 1): shorter", x.row(3, 1, 1), 1);
        is("set(3, 1, 0)", x.set(3, 1, 0), PLACE);
        is("row(3, 1, 9): longer again", x.row(3, 1, 9), 9);
        is("went(3, 1, 2): nothing of what was there", x.went(3, 1, 2), 1);
        is("count(0)", x.count(0), 1);
        is("row(3, 1, 0): of none", x.row(3, 1, 0), 0);
        is("count(0): there, too", x.count(0), 1);
    }

    private static void rowRefused() {
        holds("Promise 2", "BAD: ROW, LANE, n above 40; SIZE.");
        BorderBeds x = new BorderBeds();
        is("row(-1, 0, 0)", x.row(-1, 0, 0), BAD);
        is("row(0, 0, 0)", x.row(0, 0, 0), 0);
        is("row(7, 2, 40)", x.row(7, 2, 40), 40);
        is("row(8, 0, 0)", x.row(8, 0, 0), BAD);
        is("row(min, 0, 0)", x.row(MIN, 0, 0), BAD);
        is("row(max, 0, 0)", x.row(MAX, 0, 0), BAD);
        is("row(0, min, 0)", x.row(0, MIN, 0), BAD);
        is("row(0, max, 0)", x.row(0, MAX, 0), BAD);
        is("row(0, 0, max)", x.row(0, 0, MAX), BAD);
        is("row(-1, 0, -1): BAD and SIZE", x.row(-1, 0, -1), BAD);
        is("row(8, 0, -1): BAD and SIZE", x.row(8, 0, -1), BAD);
        is("row(0, -1, -1): BAD and SIZE", x.row(0, -1, -1), BAD);
        is("row(0, 3, -1): BAD and SIZE", x.row(0, 3, -1), BAD);
        is("drop(7): as it was", x.drop(7), 40);
    }

    private static void rowFound() {
        holds("Terms", "4 SIZE (fewer than none)");
        BorderBeds x = on(FLAT);
        row(x, 0, 0, 0, 0, 0, 0, 0, 0, 0, 5);
        is("row(0, 1, -1)", x.row(0, 1, -1), SIZE);
        is("status()", x.status(), 4);
        is("row(0, 1, min)", x.row(0, 1, MIN), SIZE);
        is("went(0, 0, 2): as it was", x.went(0, 0, 2), 1);
        is("went(0, 1, 2): as it was", x.went(0, 1, 2), 0);
        is("set(0, 0, 98304): an int yet", x.set(0, 0, 98304), 98304);
        is("row(1, 1, -1)", x.row(1, 1, -1), SIZE);
        is("drop(1): missing as it was", x.drop(1), NULL);
        is("drop(0)", x.drop(0), 9);
    }

    private static void cuts(BorderBeds x, int row, int v, int due) {
        is("set(" + row + ", 0, " + v + ")", x.set(row, 0, v), due);
    }

    private static void setCutsBytes() {
        holds("Promise 3", "its lowest bits, as many as the LANE has (read with their sign)");
        BorderBeds x = new BorderBeds();
        x.row(0, 0, 1);
        cuts(x, 0, 127, 127);
        cuts(x, 0, 128, -128);
        cuts(x, 0, 255, -1);
        cuts(x, 0, 256, 0);
        cuts(x, 0, 257, 1);
        cuts(x, 0, -128, -128);
        cuts(x, 0, -129, 127);
        cuts(x, 0, -256, 0);
        cuts(x, 0, MAX, -1);
        cuts(x, 0, MIN, 0);
    }

    private static void setCutsShorts() {
        holds("Promise 3", "its lowest bits, as many as the LANE has (read with their sign)");
        BorderBeds x = new BorderBeds();
        x.row(0, 1, 1);
        cuts(x, 0, 128, 128);
        cuts(x, 0, 32767, 32767);
        cuts(x, 0, 32768, -32768);
        cuts(x, 0, 65535, -1);
        cuts(x, 0, 65536, 0);
        cuts(x, 0, -32768, -32768);
        cuts(x, 0, -32769, 32767);
        cuts(x, 0, MAX, -1);
        cuts(x, 0, MIN, 0);
    }

    private static void setCutsNothingOfInts() {
        holds("Promise 3", "its lowest bits, as many as the LANE has (read with their sign)");
        BorderBeds x = new BorderBeds();
        x.row(0, 2, 1);
        cuts(x, 0, 32768, 32768);
        cuts(x, 0, 65536, 65536);
        cuts(x, 0, MAX, MAX);
        cuts(x, 0, MIN, MIN);
        cuts(x, 0, -1, -1);
    }

    private static void setCutsForGood() {
        holds("Promise 3", "ITEM i becomes v, its lowest bits");
        BorderBeds x = on("posts 1 1 6;");
        x.row(0, 0, 8);
        x.row(1, 1, 8);
        for (int i = 0; i < 8; i++) {
            is("set(0, i, 257)", x.set(0, i, 257), 1);
            is("set(1, i, 65537)", x.set(1, i, 65537), 1);
        }
        is("went(0, 0, 2)", x.went(0, 0, 2), 1);
        is("went(1, 0, 2)", x.went(1, 0, 2), 1);
        x.set(0, 7, 263);
        is("went(0, 0, 2): 7", x.went(0, 0, 2), BAD);
        x.set(0, 7, 262);
        is("went(0, 0, 2): 6", x.went(0, 0, 2), 0);
    }

    private static void setRefused() {
        holds("Promise 3", "BAD: ROW; NULL; PLACE.");
        BorderBeds x = new BorderBeds();
        x.row(7, 2, 3);
        x.row(0, 2, 0);
        is("set(-1, 0, 0)", x.set(-1, 0, 0), BAD);
        is("set(8, 0, 0)", x.set(8, 0, 0), BAD);
        is("set(min, 0, 0)", x.set(MIN, 0, 0), BAD);
        is("set(max, 0, 0)", x.set(MAX, 0, 0), BAD);
        is("set(8, -1, 0): BAD and PLACE", x.set(8, -1, 0), BAD);
        is("set(1, 0, 0)", x.set(1, 0, 0), NULL);
        is("set(1, -1, 0): NULL and PLACE", x.set(1, -1, 0), NULL);
        is("set(1, 40, 0): NULL and PLACE", x.set(1, 40, 0), NULL);
        is("set(7, -1, 5)", x.set(7, -1, 5), PLACE);
        is("set(7, 0, 5)", x.set(7, 0, 5), 5);
        is("set(7, 2, 5)", x.set(7, 2, 5), 5);
        is("set(7, 3, 5)", x.set(7, 3, 5), PLACE);
        is("set(7, min, 5)", x.set(7, MIN, 5), PLACE);
        is("set(7, max, 5)", x.set(7, MAX, 5), PLACE);
        is("set(0, 0, 5): of none", x.set(0, 0, 5), PLACE);
    }

    /** The line from height 0 to 5, without a CORNER: 1 2 2 3 3 4 4 5 CELLS of the south's. */
    private static BorderBeds slope() {
        BorderBeds x = on("posts 0 5 6;");
        souths(x, 1, 2, 2, 3, 3, 4, 4, 5);
        return x;
    }

    private static void copyAsTheyWere() {
        holds("Promise 4", "n ITEMS of a from i on come to b from j on, as they were ahead: n.");
        BorderBeds x = slope();
        row(x, 0, 1, 2, 2, 3, 3, 4, 4, 5, 0, 0);
        is("copy(0, 0, 0, 2, 8): upwards over themselves", x.copy(0, 0, 0, 2, 8), 8);
        is("went(0, 2, 2)", x.went(0, 2, 2), 1);
        is("went(0, 0, 2): the first two stay", x.went(0, 0, 2), 0);
        is("copy(0, 2, 0, 1, 8): downwards over themselves", x.copy(0, 2, 0, 1, 8), 8);
        is("went(0, 1, 2)", x.went(0, 1, 2), 1);
        is("copy(0, 1, 0, 1, 8): onto themselves", x.copy(0, 1, 0, 1, 8), 8);
        is("went(0, 1, 2)", x.went(0, 1, 2), 1);
        is("copy(0, 0, 0, 0, 10): the whole", x.copy(0, 0, 0, 0, 10), 10);
        is("went(0, 1, 2)", x.went(0, 1, 2), 1);
    }

    private static void copyWithin() {
        holds("Promise 4", "n ITEMS of a from i on come to b from j on, as they were ahead: n.");
        BorderBeds x = slope();
        row(x, 0, 1, 2, 2, 3, 3, 4, 4, 5);
        row(x, 1, 6, 6, 6, 6, 6, 6, 6, 6, 6, 6);
        is("copy(0, 0, 1, 1, 7)", x.copy(0, 0, 1, 1, 7), 7);
        is("went(1, 1, 2): the last is not copied", x.went(1, 1, 2), 0);
        is("copy(0, 7, 1, 8, 1)", x.copy(0, 7, 1, 8, 1), 1);
        is("went(1, 1, 2)", x.went(1, 1, 2), 1);
        is("went(0, 0, 2): what is copied stays", x.went(0, 0, 2), 1);
        is("copy(0, 0, 1, 1, 0): none", x.copy(0, 0, 1, 1, 0), 0);
        is("went(1, 1, 2)", x.went(1, 1, 2), 1);
        row(x, 2, 1, 2, 2, 3, 3, 4, 4, 5);
        is("copy(1, 0, 2, 0, 1): what is ahead of them", x.copy(1, 0, 2, 0, 1), 1);
        is("went(2, 0, 2)", x.went(2, 0, 2), 0);
        is("copy(1, 1, 2, 0, 1)", x.copy(1, 1, 2, 0, 1), 1);
        is("went(2, 0, 2)", x.went(2, 0, 2), 1);
        is("copy(1, 9, 2, 7, 1): what is behind them", x.copy(1, 9, 2, 7, 1), 1);
        is("went(2, 0, 2)", x.went(2, 0, 2), 0);
    }

    private static void copyBetween() {
        holds("Promise 4", "n ITEMS of a from i on come to b from j on, as they were ahead: n.");
        for (int lane = 0; lane < 3; lane++) {
            BorderBeds x = slope();
            x.row(6, lane, 40);
            x.row(7, lane, 40);
            put(x, 6, 32, 1, 2, 2, 3, 3, 4, 4, 5);
            is("copy(6, 32, 7, 0, 8)", x.copy(6, 32, 7, 0, 8), 8);
            is("went(7, 0, 2)", x.went(7, 0, 2), 1);
            is("went(7, 8, 2)", x.went(7, 8, 2), 0);
            is("copy(6, 0, 7, 0, 40)", x.copy(6, 0, 7, 0, 40), 40);
            is("went(7, 32, 2)", x.went(7, 32, 2), 1);
            is("went(7, 0, 2)", x.went(7, 0, 2), 0);
        }
    }

    private static void copyEdges() {
        holds("Promise 4", "PLACE (i, j, n below 0, or beyond an end)");
        BorderBeds x = new BorderBeds();
        x.row(0, 0, 12);
        x.row(1, 0, 8);
        is("copy(0, -1, 1, 0, 1)", x.copy(0, -1, 1, 0, 1), PLACE);
        is("copy(0, -1, 1, 0, 0)", x.copy(0, -1, 1, 0, 0), PLACE);
        is("copy(0, 0, 1, -1, 1)", x.copy(0, 0, 1, -1, 1), PLACE);
        is("copy(0, 0, 1, -1, 0)", x.copy(0, 0, 1, -1, 0), PLACE);
        is("copy(0, 0, 1, 0, -1)", x.copy(0, 0, 1, 0, -1), PLACE);
        is("copy(0, 4, 1, 4, -4)", x.copy(0, 4, 1, 4, -4), PLACE);
        is("copy(0, 4, 1, 0, 8): to both ends", x.copy(0, 4, 1, 0, 8), 8);
        is("copy(0, 5, 1, 0, 8): one beyond the one's", x.copy(0, 5, 1, 0, 8), PLACE);
        is("copy(0, 4, 1, 1, 8): one beyond the other's", x.copy(0, 4, 1, 1, 8), PLACE);
        is("copy(0, 0, 1, 0, 9)", x.copy(0, 0, 1, 0, 9), PLACE);
        is("copy(1, 0, 0, 0, 9)", x.copy(1, 0, 0, 0, 9), PLACE);
        is("copy(1, 8, 0, 12, 0): none, at the ends", x.copy(1, 8, 0, 12, 0), 0);
        is("copy(1, 9, 0, 12, 0): none, beyond", x.copy(1, 9, 0, 12, 0), PLACE);
        is("copy(1, 8, 0, 13, 0): none, beyond", x.copy(1, 8, 0, 13, 0), PLACE);
        is("copy(0, max, 1, 0, 1)", x.copy(0, MAX, 1, 0, 1), PLACE);
        is("copy(0, 1, 1, 0, max)", x.copy(0, 1, 1, 0, MAX), PLACE);
        is("copy(0, max, 1, max, max)", x.copy(0, MAX, 1, MAX, MAX), PLACE);
        is("copy(0, 0, 1, max, 8)", x.copy(0, 0, 1, MAX, 8), PLACE);
        is("copy(0, min, 1, 0, 1)", x.copy(0, MIN, 1, 0, 1), PLACE);
        is("copy(0, 0, 1, min, 1)", x.copy(0, 0, 1, MIN, 1), PLACE);
        is("copy(0, 0, 1, 0, min)", x.copy(0, 0, 1, 0, MIN), PLACE);
    }

    private static void copyRefused() {
        holds("Promise 4", "BAD: ROWS; NULL; STORE; PLACE");
        BorderBeds x = new BorderBeds();
        x.row(0, 0, 4);
        x.row(7, 0, 4);
        x.row(1, 1, 4);
        x.row(2, 2, 4);
        is("copy(-1, 0, 0, 0, 1)", x.copy(-1, 0, 0, 0, 1), BAD);
        is("copy(8, 0, 0, 0, 1)", x.copy(8, 0, 0, 0, 1), BAD);
        is("copy(0, 0, -1, 0, 1)", x.copy(0, 0, -1, 0, 1), BAD);
        is("copy(0, 0, 8, 0, 1)", x.copy(0, 0, 8, 0, 1), BAD);
        is("copy(min, 0, max, 0, 1)", x.copy(MIN, 0, MAX, 0, 1), BAD);
        is("copy(7, 0, 0, 0, 4)", x.copy(7, 0, 0, 0, 4), 4);
        is("copy(8, 0, 5, 0, 1): BAD and NULL", x.copy(8, 0, 5, 0, 1), BAD);
        is("copy(5, 0, -1, 0, 1): NULL and BAD", x.copy(5, 0, -1, 0, 1), BAD);
        is("copy(8, 9, 0, 0, 1): BAD and PLACE", x.copy(8, 9, 0, 0, 1), BAD);
        is("copy(5, 0, 0, 0, 1)", x.copy(5, 0, 0, 0, 1), NULL);
        is("copy(0, 0, 5, 0, 1)", x.copy(0, 0, 5, 0, 1), NULL);
        is("copy(5, 0, 6, 0, 1): NULL twice", x.copy(5, 0, 6, 0, 1), NULL);
        is("copy(5, 0, 0, 5, 1): NULL and PLACE", x.copy(5, 0, 0, 5, 1), NULL);
        is("copy(0, -1, 5, 0, 1): PLACE and NULL", x.copy(0, -1, 5, 0, 1), NULL);
        is("copy(0, 0, 1, 0, 1)", x.copy(0, 0, 1, 0, 1), STORE);
        is("copy(1, 0, 2, 0, 1)", x.copy(1, 0, 2, 0, 1), STORE);
        is("copy(2, 0, 0, 0, 0): of none, too", x.copy(2, 0, 0, 0, 0), STORE);
        is("copy(0, 0, 1, 0, 5): STORE and PLACE", x.copy(0, 0, 1, 0, 5), STORE);
        is("copy(2, -1, 0, 0, 1): STORE and PLACE", x.copy(2, -1, 0, 0, 1), STORE);
    }

    private static void copyFound() {
        holds("Terms", "5 STORE (ROWS of two LANES)");
        BorderBeds x = on(FLAT);
        row(x, 0, 0, 0, 0, 0, 0, 0, 0, 0);
        x.row(1, 1, 8);
        put(x, 1, 0, 1, 1, 1, 1, 1, 1, 1, 1);
        is("copy(1, 0, 0, 0, 8)", x.copy(1, 0, 0, 0, 8), STORE);
        is("status()", x.status(), 5);
        is("went(0, 0, 2): as it was", x.went(0, 0, 2), 1);
        x.row(0, 1, 8);
        is("copy(1, 0, 0, 0, 8): of one LANE", x.copy(1, 0, 0, 0, 8), 8);
        is("went(0, 0, 2)", x.went(0, 0, 2), 0);
    }

    private static void drop() {
        holds("Promise 5", "A ROW is missing from now on: how many ITEMS it had.");
        BorderBeds x = new BorderBeds();
        x.row(0, 0, 0);
        x.row(7, 2, 40);
        is("drop(0): it had none", x.drop(0), 0);
        is("count(0)", x.count(0), 1);
        is("drop(7)", x.drop(7), 40);
        is("count(0)", x.count(0), 0);
        is("set(7, 0, 0)", x.set(7, 0, 0), NULL);
        is("copy(7, 0, 7, 0, 0)", x.copy(7, 0, 7, 0, 0), NULL);
        is("row(7, 0, 1): there again", x.row(7, 0, 1), 1);
        is("drop(7)", x.drop(7), 1);
    }

    private static void dropRefused() {
        holds("Promise 5", "BAD; NULL.");
        BorderBeds x = new BorderBeds();
        is("drop(-1)", x.drop(-1), BAD);
        is("drop(8)", x.drop(8), BAD);
        is("drop(min)", x.drop(MIN), BAD);
        is("drop(max)", x.drop(MAX), BAD);
        is("drop(0): nothing there yet", x.drop(0), NULL);
        x.row(0, 1, 17);
        is("drop(0)", x.drop(0), 17);
        is("drop(0): dropped ahead", x.drop(0), NULL);
        is("status()", x.status(), 1);
    }
}
