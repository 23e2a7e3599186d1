/** The sentences of KINDS, BODIES, THE TRACE and status: "Terms" 3 and 4, promises 21 to 26. */
final class AskSentences extends Sentences {
    private static final String[] NAMES = {"", "aunt", "envoy", "twin", "child", "monk"};

    static void all() {
        kinds();
        kindRefused();
        asOne();
        asRefused();
        asFound();
        bodies();
        bodiesAtTheEdges();
        askedOnce();
        askRefused();
        traceIsEmptied();
        traceEdges();
        traceStays();
        countNothing();
        countFull();
        countOfEach();
        countRefused();
        statusAtFirst();
        statusOfFindings();
        statusBehindRefusals();
        statusOfItems();
        statusOfOthers();
    }

    /** Five of the south, of KINDS 1 to 5, whose homes are CELLS 11, 22, 31, 32 and 47. */
    private static BorderBeds people() {
        return on("posts 2 2 1;person aunt 0 3 1 4;person envoy 1 6 2 5;person twin 0 7 3 6;"
                + "person child 1 0 4 7;person monk 0 7 5 13;");
    }

    private static void kinds() {
        holds("Promise 21", "The KIND of one, as told (1 to 5).");
        BorderBeds x = people();
        for (int n = 0; n < 5; n++) {
            is("kind(" + n + ")", x.kind(n), n + 1);
        }
    }

    private static void kindRefused() {
        holds("Promise 21", "BAD.");
        BorderBeds x = people();
        is("kind(-1)", x.kind(-1), BAD);
        is("kind(5)", x.kind(5), BAD);
        is("kind(min)", x.kind(MIN), BAD);
        is("kind(max)", x.kind(MAX), BAD);
        BorderBeds y = on(FLAT + "person monk 0 0 0 0;");
        is("kind(0)", y.kind(0), 5);
        is("kind(1)", y.kind(1), BAD);
        is("kind(0): no PEOPLE", on(FLAT).kind(0), BAD);
        is("kind(0): no GROUND", new BorderBeds().kind(0), BAD);
    }

    private static void asOne() {
        holds("Terms", "KINDS of PEOPLE: 0 PERSON; 1 AUNT, a PERSON; 2 ENVOY, an AUNT one; 3 TWIN,"
                + " an AUNT one; 4 CHILD, a PERSON; 5 MONK, a CHILD one.");
        String[] is = {"110000", "111000", "110100", "100010", "100011"};
        BorderBeds x = people();
        for (int n = 0; n < 5; n++) {
            for (int kind = 0; kind <= 5; kind++) {
                boolean isOne = is[n].charAt(kind) == '1';
                is("as(" + n + ", " + kind + ")", x.as(n, kind), isOne ? n : KIND);
                is("status()", x.status(), isOne ? 0 : 3);
            }
            is("kind(" + n + "): as told", x.kind(n), n + 1);
        }
    }

    private static void asRefused() {
        holds("Promise 22", "One is taken as one of a KIND (0 .. 5): his number. BAD; KIND: he is"
                + " no such one.");
        BorderBeds x = people();
        is("as(0, -1)", x.as(0, -1), BAD);
        is("as(0, 0)", x.as(0, 0), 0);
        is("as(4, 5)", x.as(4, 5), 4);
        is("as(4, 6): BAD, and no such one", x.as(4, 6), BAD);
        is("as(-1, 0)", x.as(-1, 0), BAD);
        is("as(5, 0)", x.as(5, 0), BAD);
        is("as(5, 6)", x.as(5, 6), BAD);
        is("as(min, 0)", x.as(MIN, 0), BAD);
        is("as(max, 0)", x.as(MAX, 0), BAD);
        is("as(0, min)", x.as(0, MIN), BAD);
        is("as(0, max)", x.as(0, MAX), BAD);
        is("as(0, 0): no GROUND", new BorderBeds().as(0, 0), BAD);
    }

    private static void asFound() {
        holds("Terms", "3 KIND (one of the PEOPLE that is not that)");
        BorderBeds x = people();
        is("as(0, 5)", x.as(0, 5), KIND);
        is("status()", x.status(), 3);
        is("as(0, 6)", x.as(0, 6), BAD);
        is("as(9, 0)", x.as(9, 0), BAD);
        is("status()", x.status(), 3);
        is("as(0, 1)", x.as(0, 1), 0);
        is("status()", x.status(), 0);
    }

    private static void asks(BorderBeds x, int person, int what, int due, int... bodies) {
        is("ask(" + person + ", " + what + ")", x.ask(person, what), due);
        for (int i = 0; i < bodies.length; i++) {
            is("trace(" + i + ") of ask(" + person + ", " + what + ")", x.trace(i), bodies[i]);
        }
        is("trace(" + bodies.length + ")", x.trace(bodies.length), NONE);
    }

    private static void bodies() {
        holds("Terms", "Of an ask the BODY told for the KIND begins, else that of the nearest KIND"
                + " that it is, too, else the one that is lent; SIZE, MARK within others are asked"
                + " of the same one anew.");
        BorderBeds x = people();
        asks(x, 0, 0, 4 + 0 + 11, 11, 10, 21, 20);
        asks(x, 0, 1, 0 + 11, 21, 20);
        asks(x, 1, 0, -(5 + 2 * (1 + 22)), 12, 11, 10, 24, 21, 20);
        asks(x, 1, 1, 2 * (1 + 22), 24, 21, 20);
        asks(x, 2, 0, 6 + 2 + 31 - 1000, 11, 10, 22, 21, 20);
        asks(x, 2, 1, 2 + 31 - 1000, 22, 21, 20);
        asks(x, 3, 0, 7 - 100, 13, 10);
        asks(x, 3, 1, 3 - (7 - 100), 23, 20, 13, 10);
        asks(x, 4, 0, 2 * (13 - 100), 14, 13, 10);
        asks(x, 4, 1, 4 - 2 * (13 - 100), 23, 20, 14, 13, 10);
    }

    private static void bodiesAtTheEdges() {
        holds("Terms", "0 SIZE: 10 lent to all PEOPLE: MILES.");
        int[] homes = {0, 47};
        int[] miles = {0, 13};
        for (int home : homes) {
            for (int m : miles) {
                String text = FLAT;
                for (int kind = 1; kind <= 5; kind++) {
                    text += "person " + NAMES[kind] + " 0 " + home % 8 + " " + home / 8 + " " + m
                            + ";";
                }
                BorderBeds x = on(text);
                int[] sizes = {m + home, -(m + 2 * (1 + home)), m + 2 + home - 1000, m - 100,
                    2 * (m - 100)};
                int[] marks = {home, 2 * (1 + home), 2 + home - 1000, 3 - (m - 100),
                    4 - 2 * (m - 100)};
                for (int n = 0; n < 5; n++) {
                    is("ask(" + n + ", 0)", x.ask(n, 0), sizes[n]);
                    is("ask(" + n + ", 1)", x.ask(n, 1), marks[n]);
                }
            }
        }
    }

    private static void askedOnce() {
        holds("Terms", "24 of ENVOYS: twice what 21 gives (asked once).");
        BorderBeds x = on(FLAT + "person envoy 0 5 5 9;person monk 0 0 0 9;");
        asks(x, 0, 1, 2 * 45, 24, 21, 20);
        holds("Terms", "14 of MONKS: twice what 13 gives (asked once).");
        asks(x, 1, 0, 2 * (9 - 100), 14, 13, 10);
    }

    private static void askRefused() {
        holds("Promise 23", "An ASK (0, 1) of one. BAD. THE TRACE is empty ahead of it (where that"
                + " is refused it stays).");
        BorderBeds x = people();
        asks(x, 3, 0, -93, 13, 10);
        is("ask(3, -1)", x.ask(3, -1), BAD);
        is("ask(3, 2)", x.ask(3, 2), BAD);
        is("ask(3, min)", x.ask(3, MIN), BAD);
        is("ask(3, max)", x.ask(3, MAX), BAD);
        is("ask(-1, 0)", x.ask(-1, 0), BAD);
        is("ask(5, 0)", x.ask(5, 0), BAD);
        is("ask(min, 0)", x.ask(MIN, 0), BAD);
        is("ask(max, 0)", x.ask(MAX, 0), BAD);
        is("trace(0)", x.trace(0), 13);
        is("trace(1)", x.trace(1), 10);
        is("trace(2)", x.trace(2), NONE);
        is("ask(0, 0): no PEOPLE", on(FLAT).ask(0, 0), BAD);
    }

    private static void traceIsEmptied() {
        holds("Promise 23", "THE TRACE is empty ahead of it");
        BorderBeds x = people();
        asks(x, 1, 0, -51, 12, 11, 10, 24, 21, 20);
        asks(x, 3, 0, -93, 13, 10);
        for (int i = 2; i < 16; i++) {
            is("trace(" + i + ")", x.trace(i), NONE);
        }
    }

    /** No ASK leaves more than six numbers, so that 16 have room whatever is asked. */
    private static void traceEdges() {
        holds("Terms", "each of which leaves its number in THE TRACE as it begins (the first 16)");
        BorderBeds x = people();
        for (int i = -1; i <= 17; i++) {
            is("trace(" + i + "): an empty one", x.trace(i), NONE);
        }
        int[] due = {12, 11, 10, 24, 21, 20};
        x.ask(1, 0);
        is("trace(-1)", x.trace(-1), NONE);
        for (int i = 0; i <= 17; i++) {
            is("trace(" + i + ")", x.trace(i), i < 6 ? due[i] : NONE);
        }
        is("trace(min)", x.trace(MIN), NONE);
        is("trace(max)", x.trace(MAX), NONE);
    }

    private static void traceStays() {
        holds("Promise 24", "Number i of THE TRACE; NONE.");
        BorderBeds x = people();
        x.image(0);
        x.ask(3, 1);
        x.cross(4, 47);
        x.undo();
        x.kind(0);
        x.as(0, 1);
        x.restore(0);
        x.row(0, 0, 1);
        read(x, "?");
        read(x, FLAT);
        is("trace(0)", x.trace(0), 23);
        is("trace(3)", x.trace(3), 10);
        is("trace(4)", x.trace(4), NONE);
    }

    private static void counts(BorderBeds x, int... due) {
        for (int what = 0; what < 7; what++) {
            is("count(" + what + ")", x.count(what), due[what]);
        }
    }

    private static void countNothing() {
        holds("Promise 25", "How many: 0 ROWS, 1 PEOPLE, 2 CORNERS, 3 villages told, 4 ACTS that"
                + " can be undone, 5 CELLS with a guard, 6 bytes on the tape.");
        counts(new BorderBeds(), 0, 0, 0, 0, 0, 0, 0);
        counts(on(FLAT), 0, 0, 0, 0, 0, 0, 0);
    }

    private static void countFull() {
        holds("Promise 25", "How many: 0 ROWS, 1 PEOPLE, 2 CORNERS, 3 villages told, 4 ACTS that"
                + " can be undone, 5 CELLS with a guard, 6 bytes on the tape.");
        BorderBeds x = on("posts 0 0 6;" + "village 1 1 1;".repeat(8) + "guard 0 0;guard 1 0;"
                + "guard 2 0;guard 3 0;guard 4 0;guard 5 0;guard 6 0;guard 7 0;"
                + "person aunt 0 0 0 13;".repeat(5));
        for (int n = 0; n < 30; n++) {
            x.cross(n % 5, 40 + n % 8);
        }
        for (int row = 0; row < 8; row++) {
            x.row(row, 0, 0);
        }
        feed(x, " ".repeat(400));
        counts(x, 8, 5, 6, 8, 24, 8, 400);
    }

    private static void countOfEach() {
        holds("Promise 25", "3 villages told, 4 ACTS that can be undone, 5 CELLS with a guard");
        BorderBeds x = on("posts 0 0 6;village 1 1 1;village 1 1 1;village 2 1 1;guard 3 3;"
                + "guard 3 3;person twin 0 0 0 13;person monk 0 0 0 13;");
        x.cross(0, 40);
        x.cross(1, 41);
        x.row(2, 0, 0);
        x.feed(-1, 5);
        counts(x, 1, 2, 2, 3, 2, 1, 5);
        x.undo();
        x.undo();
        x.drop(2);
        x.ground();
        counts(x, 0, 2, 0, 3, 0, 1, 0);
    }

    private static void countRefused() {
        holds("Promise 25", "6 bytes on the tape. BAD.");
        BorderBeds x = new BorderBeds();
        is("count(-1)", x.count(-1), BAD);
        is("count(0)", x.count(0), 0);
        is("count(6)", x.count(6), 0);
        is("count(7)", x.count(7), BAD);
        is("count(min)", x.count(MIN), BAD);
        is("count(max)", x.count(MAX), BAD);
        is("count(7)", people().count(7), BAD);
    }

    private static void statusAtFirst() {
        holds("Promise 26", "0: it had none, or there was none.");
        BorderBeds x = new BorderBeds();
        is("status(): there was none", x.status(), 0);
        x.row(8, 0, 0);
        x.went(0, 0, 0);
        x.as(0, 0);
        x.feed(0, 9);
        x.cell(0, 0);
        is("status(): there was none yet", x.status(), 0);
        x.row(0, 0, 0);
        is("status(): it had none", x.status(), 0);
    }

    private static void statusOfFindings() {
        holds("Promise 26", "Of the latest call with a ROW, or as(), that was not BAD, STATE, FULL:"
                + " the number of its FINDING");
        BorderBeds x = people();
        x.row(0, 0, 8);
        x.row(1, 1, 8);
        int[] numbers = {4, 1, 2, 1, 5, 2, 1, 1, 2, 3};
        for (int n = 0; n < numbers.length; n++) {
            int found = found(x, n);
            is("finding " + n, found, -1000010 - numbers[n]);
            is("status() behind finding " + n, x.status(), numbers[n]);
            is("status() again", x.status(), numbers[n]);
            is("none " + n, fine(x, n % 5) >= 0 ? 1 : 0, 1);
            is("status() behind none " + n, x.status(), 0);
        }
    }

    private static int found(BorderBeds x, int n) {
        switch (n) {
            case 0: return x.row(0, 0, -1);
            case 1: return x.set(5, 0, 0);
            case 2: return x.set(0, 8, 0);
            case 3: return x.copy(0, 0, 5, 0, 1);
            case 4: return x.copy(0, 0, 1, 0, 1);
            case 5: return x.copy(0, 0, 0, 1, 8);
            case 6: return x.drop(5);
            case 7: return x.went(5, 0, 0);
            case 8: return x.went(0, 1, 0);
            default: return x.as(0, 2);
        }
    }

    private static int fine(BorderBeds x, int n) {
        switch (n) {
            case 0: return x.row(6, 0, 0);
            case 1: return x.set(0, 0, 0);
            case 2: return x.copy(0, 0, 0, 0, 8);
            case 3: return x.went(0, 0, 2);
            default: return x.as(0, 1);
        }
    }

    private static void statusBehindRefusals() {
        holds("Promise 26", "that was not BAD, STATE, FULL");
        BorderBeds x = new BorderBeds();
        x.row(0, 0, -1);
        is("went(0, 0, 0)", x.went(0, 0, 0), STATE);
        is("status(): behind STATE", x.status(), 4);
        is("set(8, 0, 0)", x.set(8, 0, 0), BAD);
        is("copy(8, 0, 0, 0, 0)", x.copy(8, 0, 0, 0, 0), BAD);
        is("row(0, 3, 0)", x.row(0, 3, 0), BAD);
        is("drop(-1)", x.drop(-1), BAD);
        is("as(0, 0)", x.as(0, 0), BAD);
        is("status(): behind BAD", x.status(), 4);
        read(x, FLAT);
        x.row(0, 0, 9);
        x.set(0, 0, 7);
        is("went(0, 2, 0)", x.went(0, 2, 0), PLACE);
        is("went(0, 0, 0): an ITEM of 7", x.went(0, 0, 0), BAD);
        is("went(0, 0, 9)", x.went(0, 0, 9), BAD);
        is("status(): behind BAD", x.status(), 2);
        is("went(0, 1, 0)", x.went(0, 1, 0), 0);
        is("status()", x.status(), 0);
        is("went(0, 1, 1): NONE is no refusal", x.went(0, 1, 1), NONE);
        x.drop(5);
        is("status()", x.status(), 1);
        is("went(0, 1, 1)", x.went(0, 1, 1), NONE);
        is("status(): behind NONE", x.status(), 0);
    }

    private static void statusOfItems() {
        holds("Promise 26", "0: it had none");
        BorderBeds x = new BorderBeds();
        x.row(0, 2, 1);
        for (int v = -1000016; v <= -999999; v++) {
            x.drop(1);
            is("set(0, 0, " + v + ")", x.set(0, 0, v), v);
            is("status(): an ITEM of " + v, x.status(), 0);
        }
    }

    private static void statusOfOthers() {
        holds("Promise 26", "Of the latest call with a ROW, or as()");
        BorderBeds x = people();
        x.as(0, 5);
        x.cross(4, 47);
        x.cross(4, 0);
        x.undo();
        x.person(0, 0);
        x.cell(0, 0);
        x.land(0, 0);
        x.best(0, 0);
        x.answer(0, 1, 0);
        x.game(0, 1, 0);
        x.held(0, 0, -1);
        x.image(0);
        x.restore(0);
        x.kind(0);
        x.ask(0, 0);
        x.trace(0);
        x.count(0);
        x.fault();
        read(x, "?");
        read(x, FLAT);
        feed(x, " ".repeat(408));
        is("status(): calls without a ROW leave it", x.status(), 3);
    }
}
