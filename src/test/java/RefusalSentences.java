import java.util.ArrayList;
import java.util.List;
import java.util.function.ToIntFunction;

/**
 * What a call leaves as it was: two objects are brought to one state, the call comes on one of
 * them, and then both must answer all else alike, down to the undoing and the tape.
 */
final class RefusalSentences extends Sentences {
    private static final int AS_IT_WAS = 4;

    private record Call(String name, int due, int status, ToIntFunction<BorderBeds> how) { }

    private static final List<Call> calls = new ArrayList<>();

    static void all() {
        refused();
        refusedAtOnce();
        foundAtOnce();
        found();
        foretold();
        asked();
        refusedWithoutGround();
        refusedWhenFull();
    }

    /** Everything is there: rows, tape, GROUND, CORNERS, ACTS, an IMAGE, THE TRACE; status is 4. */
    private static BorderBeds full() {
        BorderBeds x = new BorderBeds();
        read(x, "posts 2 3 3;village 3 3 5;village 1 1 7;guard 5 5;guard 4 4;person twin 0 3 0 13;"
                + "person monk 1 0 5 9;person child 0 7 0 13;person envoy 1 5 5 2;"
                + "person aunt 0 2 1 4;");
        read(x, "posts 9");
        x.image(0);
        crosses(x, 1, 8, 0);
        crosses(x, 2, 44, 1);
        crosses(x, 4, 34, 2);
        crosses(x, 3, 22, 3);
        row(x, 0, 0, 3, 4, 4, 5, 5, 4, 2, 3, 9);
        x.row(1, 0, 8);
        put(x, 1, 0, 3, 4, 4, 5, 5, 4, 2, 3);
        x.row(2, 1, 0);
        x.ask(3, 0);
        feed(x, "posts 1 ");
        x.row(6, 0, -1);
        return x;
    }

    private static void add(String name, int due, ToIntFunction<BorderBeds> how) {
        boolean finding = due <= NULL && due >= STORE;
        calls.add(new Call(name, due, finding ? -1000010 - due : AS_IT_WAS, how));
    }

    private static void addFine(String name, int due, ToIntFunction<BorderBeds> how) {
        calls.add(new Call(name, due, 0, how));
    }

    /** Makes each of the calls on an object of its own and asks what has become of all else. */
    private static void leaveAllElse() {
        List<Integer> due = answers(full());
        for (Call call : calls) {
            BorderBeds x = full();
            is(call.name(), call.how().applyAsInt(x), call.due());
            is("status() behind " + call.name(), x.status(), call.status());
            List<Integer> got = answers(x);
            for (int n = 0; n < due.size(); n++) {
                is("answer " + n + " behind " + call.name(), got.get(n), due.get(n));
            }
        }
        calls.clear();
    }

    private static List<Integer> answers(BorderBeds x) {
        List<Integer> all = new ArrayList<>();
        for (int i = 0; i < 8; i++) {
            all.add(x.trace(i));
        }
        askNumbers(x, all);
        askCells(x, all);
        askPeople(x, all);
        askRows(x, all);
        askTape(x, all);
        askActs(x, all);
        askImages(x, all);
        return all;
    }

    private static void askNumbers(BorderBeds x, List<Integer> all) {
        for (int what = 0; what < 7; what++) {
            all.add(x.count(what));
        }
        all.add(x.fault());
        for (int what = 0; what < 3; what++) {
            all.add(x.land(0, what));
            all.add(x.land(1, what));
        }
    }

    private static void askCells(BorderBeds x, List<Integer> all) {
        for (int cell = 0; cell < 48; cell++) {
            all.add(x.cell(cell, 0));
            all.add(x.cell(cell, 3));
        }
        for (int cell : new int[] {9, 27, 36, 45}) {
            all.add(x.cell(cell, 1));
            all.add(x.cell(cell, 2));
        }
    }

    private static void askPeople(BorderBeds x, List<Integer> all) {
        for (int n = 0; n < 5; n++) {
            for (int what = 0; what < 4; what++) {
                all.add(x.person(n, what));
            }
            all.add(x.kind(n));
            all.add(x.best(n, 0));
            all.add(x.answer(n, (n + 1) % 5, 1));
        }
        all.add(x.held(0, 999, -1));
    }

    /** Whether ROWS are there and of one LANE, how long they are, and ITEMS that tell the line. */
    private static void askRows(BorderBeds x, List<Integer> all) {
        for (int row = 0; row < 8; row++) {
            all.add(x.copy(row, 0, 0, 0, 0));
            all.add(x.copy(row, 0, 1, 0, 0));
        }
        for (int what = 0; what < 3; what++) {
            all.add(x.went(0, 1, what));
            all.add(x.went(1, 0, what));
        }
        all.add(x.went(0, 0, 2));
        all.add(x.went(0, 2, 2));
        for (int row = 0; row < 8; row++) {
            all.add(x.drop(row));
        }
    }

    private static void askTape(BorderBeds x, List<Integer> all) {
        feed(x, "?");
        all.add(x.ground());
        all.add(x.fault());
    }

    /** Ages are seen by what goes when others come, and what is kept by undoing all. */
    private static void askActs(BorderBeds x, List<Integer> all) {
        for (int cell : new int[] {47, 46}) {
            all.add(x.cross(2, cell));
            all.add(x.land(0, 0));
        }
        for (int n = 0; n < 6; n++) {
            all.add(x.undo());
            all.add(x.land(0, 0));
            all.add(x.count(2));
        }
    }

    private static void askImages(BorderBeds x, List<Integer> all) {
        all.add(x.restore(1));
        x.cross(2, 40);
        all.add(x.restore(0));
        for (int cell = 0; cell < 48; cell += 5) {
            all.add(x.cell(cell, 0));
        }
        all.add(x.count(2));
        all.add(x.count(4));
    }

    private static void refused() {
        holds("Terms", "What is refused, or found, changes nothing but status().");
        is("whether the ROWS of the full state tell its line", full().went(0, 1, 2), 1);
        add("row(8, 2, 3)", BAD, x -> x.row(8, 2, 3));
        add("row(0, 3, 3)", BAD, x -> x.row(0, 3, 3));
        add("row(0, 2, 41)", BAD, x -> x.row(0, 2, 41));
        add("set(8, 1, 0)", BAD, x -> x.set(8, 1, 0));
        add("copy(8, 0, 0, 0, 1)", BAD, x -> x.copy(8, 0, 0, 0, 1));
        add("copy(0, 0, -1, 0, 1)", BAD, x -> x.copy(0, 0, -1, 0, 1));
        add("drop(8)", BAD, x -> x.drop(8));
        add("feed(63, 0)", BAD, x -> x.feed(63, 0));
        add("feed(63, 9)", BAD, x -> x.feed(63, 9));
        add("cross(5, 40)", BAD, x -> x.cross(5, 40));
        add("cross(0, 48)", BAD, x -> x.cross(0, 48));
        add("cross(0, 45): a guard", STATE, x -> x.cross(0, 45));
        add("cross(0, 0): his own", STATE, x -> x.cross(0, 0));
        add("cross(4, 47): too far", STATE, x -> x.cross(4, 47));
        add("person(5, 0)", BAD, x -> x.person(5, 0));
        add("person(0, 4)", BAD, x -> x.person(0, 4));
        add("cell(48, 0)", BAD, x -> x.cell(48, 0));
        add("cell(0, 4)", BAD, x -> x.cell(0, 4));
        add("land(2, 0)", BAD, x -> x.land(2, 0));
        add("land(0, 3)", BAD, x -> x.land(0, 3));
        add("best(5, 0)", BAD, x -> x.best(5, 0));
        add("answer(0, 0, 0)", BAD, x -> x.answer(0, 0, 0));
        add("game(0, 5, 0)", BAD, x -> x.game(0, 5, 0));
        add("held(0, 1000, 0)", BAD, x -> x.held(0, 1000, 0));
        add("held(0, 0, -2)", BAD, x -> x.held(0, 0, -2));
        add("image(2)", BAD, x -> x.image(2));
        add("image(-1)", BAD, x -> x.image(-1));
        add("restore(2)", BAD, x -> x.restore(2));
        add("restore(1)", STATE, x -> x.restore(1));
        add("kind(5)", BAD, x -> x.kind(5));
        add("as(5, 0)", BAD, x -> x.as(5, 0));
        add("as(0, 6)", BAD, x -> x.as(0, 6));
        add("ask(5, 0)", BAD, x -> x.ask(5, 0));
        add("ask(0, 2)", BAD, x -> x.ask(0, 2));
        add("trace(-1)", NONE, x -> x.trace(-1));
        add("count(7)", BAD, x -> x.count(7));
        leaveAllElse();
    }

    private static void refusedAtOnce() {
        holds("Terms", "Refusals are answers, the first of these that fits, but as told: BAD (a"
                + " number is not as told; there is no such thing), STATE (as told), FULL (as"
                + " told), then FINDINGS");
        add("row(8, 0, -1)", BAD, x -> x.row(8, 0, -1));
        add("row(0, 3, -1)", BAD, x -> x.row(0, 3, -1));
        add("set(8, 40, 0)", BAD, x -> x.set(8, 40, 0));
        add("copy(8, 0, 3, 0, 1)", BAD, x -> x.copy(8, 0, 3, 0, 1));
        add("cross(5, 45)", BAD, x -> x.cross(5, 45));
        add("cross(4, 48)", BAD, x -> x.cross(4, 48));
        add("went(8, 99, 0)", BAD, x -> x.went(8, 99, 0));
        add("went(3, 0, 3)", BAD, x -> x.went(3, 0, 3));
        add("as(0, 6)", BAD, x -> x.as(0, 6));
        add("as(5, 4)", BAD, x -> x.as(5, 4));
        leaveAllElse();
    }

    private static void foundAtOnce() {
        holds("Terms", "then FINDINGS, of several the first in time: -1000010 less 1 NULL");
        add("set(3, 40, 0)", NULL, x -> x.set(3, 40, 0));
        add("copy(3, 0, 0, 99, 1)", NULL, x -> x.copy(3, 0, 0, 99, 1));
        add("copy(0, -1, 3, 0, 1)", NULL, x -> x.copy(0, -1, 3, 0, 1));
        add("copy(0, 0, 1, 0, 99)", STORE, x -> x.copy(0, 0, 1, 0, 99));
        add("copy(0, 0, 1, -1, -1)", STORE, x -> x.copy(0, 0, 1, -1, -1));
        add("went(3, 99, 0)", NULL, x -> x.went(3, 99, 0));
        add("went(0, 3, 0): an ITEM is 9, too", PLACE, x -> x.went(0, 3, 0));
        leaveAllElse();
    }

    private static void found() {
        holds("Terms", "1 NULL (a ROW that is missing), 2 PLACE (no such place of a ROW), 3 KIND"
                + " (one of the PEOPLE that is not that), 4 SIZE (fewer than none), 5 STORE (ROWS"
                + " of two LANES)");
        add("row(0, 2, -1)", SIZE, x -> x.row(0, 2, -1));
        add("row(3, 2, -1)", SIZE, x -> x.row(3, 2, -1));
        add("set(3, 0, 0)", NULL, x -> x.set(3, 0, 0));
        add("set(0, 10, 0)", PLACE, x -> x.set(0, 10, 0));
        add("set(0, -1, 0)", PLACE, x -> x.set(0, -1, 0));
        add("copy(3, 0, 0, 1, 0)", NULL, x -> x.copy(3, 0, 0, 1, 0));
        add("copy(0, 1, 3, 0, 0)", NULL, x -> x.copy(0, 1, 3, 0, 0));
        add("copy(1, 0, 0, 0, 8)", STORE, x -> x.copy(1, 0, 0, 0, 8));
        add("copy(0, 0, 0, 1, 10)", PLACE, x -> x.copy(0, 0, 0, 1, 10));
        add("copy(0, 1, 0, 0, -1)", PLACE, x -> x.copy(0, 1, 0, 0, -1));
        add("drop(3)", NULL, x -> x.drop(3));
        add("went(3, 0, 0)", NULL, x -> x.went(3, 0, 0));
        add("went(0, 3, 1)", PLACE, x -> x.went(0, 3, 1));
        add("went(2, 0, 2)", PLACE, x -> x.went(2, 0, 2));
        add("as(0, 2)", KIND, x -> x.as(0, 2));
        add("as(1, 1)", KIND, x -> x.as(1, 1));
        leaveAllElse();
        holds("Promise 18", "PLACE; then BAD: an ITEM not 0 to 6.");
        add("went(0, 2, 2)", BAD, x -> x.went(0, 2, 2));
        leaveAllElse();
    }

    private static void foretold() {
        holds("Terms", "FORETOLD (nothing changes).");
        BorderBeds y = full();
        for (int what = 0; what < 2; what++) {
            int w = what;
            for (int n = 0; n < 5; n++) {
                int who = n;
                int other = (n + 2) % 5;
                add("best(" + who + ", " + w + ")", y.best(who, w), x -> x.best(who, w));
                add("answer(" + who + ", " + other + ", " + w + ")", y.answer(who, other, w),
                        x -> x.answer(who, other, w));
                add("game(" + who + ", " + other + ", " + w + ")", y.game(who, other, w),
                        x -> x.game(who, other, w));
            }
            add("held(" + w + ", 8, -1)", y.held(w, 8, -1), x -> x.held(w, 8, -1));
            add("held(" + w + ", 8, 0)", y.held(w, 8, 0), x -> x.held(w, 8, 0));
        }
        for (int what = 0; what < 3; what++) {
            int w = what;
            addFine("went(0, 1, " + w + ")", y.went(0, 1, w), x -> x.went(0, 1, w));
        }
        leaveAllElse();
    }

    private static void asked() {
        holds("Terms", "What is refused, or found, changes nothing but status().");
        BorderBeds y = full();
        add("person(0, 3)", y.person(0, 3), x -> x.person(0, 3));
        add("cell(34, 3)", 1, x -> x.cell(34, 3));
        add("land(0, 2)", y.land(0, 2), x -> x.land(0, 2));
        add("kind(4)", 1, x -> x.kind(4));
        add("trace(0)", 12, x -> x.trace(0));
        add("count(6)", 8, x -> x.count(6));
        add("fault()", 2, x -> x.fault());
        add("status()", 4, x -> x.status());
        addFine("as(4, 1)", 4, x -> x.as(4, 1));
        addFine("copy(0, 0, 0, 0, 10)", 10, x -> x.copy(0, 0, 0, 0, 10));
        leaveAllElse();
    }

    private static void refusedWithoutGround() {
        holds("Promise 12", "STATE: no GROUND (ahead of BAD).");
        BorderBeds x = new BorderBeds();
        x.row(0, 2, 8);
        x.row(0, 2, -1);
        feed(x, "posts 0 0 6");
        is("cell(48, 4)", x.cell(48, 4), STATE);
        is("land(2, 3)", x.land(2, 3), STATE);
        is("held(2, 1000, -2)", x.held(2, 1000, -2), STATE);
        is("went(8, -1, 3)", x.went(8, -1, 3), STATE);
        is("went(0, 0, 0)", x.went(0, 0, 0), STATE);
        is("undo()", x.undo(), STATE);
        is("image(0)", x.image(0), STATE);
        is("restore(0)", x.restore(0), STATE);
        is("cross(0, 0)", x.cross(0, 0), BAD);
        is("ask(0, 0)", x.ask(0, 0), BAD);
        is("as(0, 0)", x.as(0, 0), BAD);
        is("status()", x.status(), 4);
        is("count(0)", x.count(0), 1);
        is("count(6)", x.count(6), 11);
        is("fault()", x.fault(), 0);
        x.feed(';', 1);
        is("ground(): the tape was left", x.ground(), 0);
        is("restore(0): none was kept", x.restore(0), STATE);
        is("went(0, 0, 2): the ROW was left", x.went(0, 0, 2), 1);
    }

    private static void refusedWhenFull() {
        holds("Terms", "What is refused, or found, changes nothing but status().");
        BorderBeds x = new BorderBeds();
        x.set(0, 0, 0);
        feed(x, " ".repeat(388) + "posts 0 0 1;");
        for (int n = 1; n <= 8; n++) {
            is("feed(-1, " + n + ")", x.feed(-1, n), FULL);
            is("count(6)", x.count(6), 400);
        }
        is("feed(-1, 9)", x.feed(-1, 9), BAD);
        is("status()", x.status(), 1);
        is("fault()", x.fault(), 0);
        is("ground()", x.ground(), 0);
    }
}
