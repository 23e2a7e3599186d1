/** For each promise of the document: ordinary inputs, the edges that it names, wrong inputs. */
public final class PromiseTests {
    private static final int NONE = BorderBeds.NONE, BAD = BorderBeds.BAD;
    private static final int STATE = BorderBeds.STATE, FULL = BorderBeds.FULL;
    private static final int NULL = -1000011, PLACE = -1000012, KIND = -1000013;
    private static final int SIZE = -1000014, STORE = -1000015;

    private static int wrong = 0;
    private static int checks = 0;
    private static int promise = 0;

    public static void main(String[] args) {
        promise1();
        promise2();
        promise3();
        promise4();
        promise5();
        promise6();
        promise7();
        promise7Faults();
        promise8();
        promise9();
        promise9Corners();
        promise9Keeps();
        promise10();
        promise11();
        promise12();
        promise13();
        promise14();
        promise15();
        promise16();
        promise17();
        promise18();
        promise19();
        promise20();
        promise21();
        promise22();
        promise23();
        promise24();
        promise25();
        promise26();
        System.out.println(checks + " checks of promises, " + wrong + " wrong");
        if (wrong != 0) {
            System.exit(1);
        }
    }

    private static void is(String call, int got, int due) {
        checks++;
        if (got != due) {
            wrong++;
            System.out.println("promise " + promise + ": " + call + " answered " + got + ", due is "
                    + due);
        }
    }

    private static void feedText(BorderBeds x, String text) {
        for (int i = 0; i < text.length(); i++) {
            x.feed(text.charAt(i), 1);
        }
    }

    private static int read(BorderBeds x, String text) {
        feedText(x, text);
        return x.ground();
    }

    private static BorderBeds on(String text) {
        BorderBeds x = new BorderBeds();
        int people = read(x, text);
        is("ground of " + text + " is read (1)", people >= 0 ? 1 : 0, 1);
        return x;
    }

    private static void faultIs(String text, int place, int number) {
        BorderBeds x = new BorderBeds();
        is("ground() of '" + text + "'", read(x, text), -1000100 - place);
        is("fault() of '" + text + "'", x.fault(), number);
    }

    private static void owners(BorderBeds x, int column, int... due) {
        for (int y = 0; y < due.length; y++) {
            is("cell(" + (8 * y + column) + ", 0)", x.cell(8 * y + column, 0), due[y]);
        }
    }

    private static void put(BorderBeds x, int row, int from, int... items) {
        for (int i = 0; i < items.length; i++) {
            x.set(row, from + i, items[i]);
        }
    }

    private static String times(String text, int n) {
        return text.repeat(n);
    }

    private static void promise1() {
        promise = 1;
        BorderBeds x = new BorderBeds();
        for (int what = 0; what <= 6; what++) {
            is("count(" + what + ")", x.count(what), 0);
        }
        is("status()", x.status(), 0);
        is("fault()", x.fault(), 0);
        is("cell(0, 0)", x.cell(0, 0), STATE);
        is("cell(-1, 9)", x.cell(-1, 9), STATE);
        is("land(0, 0)", x.land(0, 0), STATE);
        is("land(7, 7)", x.land(7, 7), STATE);
        is("held(5, 5, -9)", x.held(5, 5, -9), STATE);
        is("went(9, 0, 9)", x.went(9, 0, 9), STATE);
        is("image(1)", x.image(1), STATE);
        is("restore(1)", x.restore(1), STATE);
        is("undo()", x.undo(), STATE);
        is("person(0, 0)", x.person(0, 0), BAD);
        is("kind(0)", x.kind(0), BAD);
        is("trace(0)", x.trace(0), NONE);
        is("drop(7)", x.drop(7), NULL);
    }

    private static void promise2() {
        promise = 2;
        BorderBeds x = new BorderBeds();
        is("row(0, 0, 0)", x.row(0, 0, 0), 0);
        is("row(7, 2, 40)", x.row(7, 2, 40), 40);
        is("row(-1, 0, 1)", x.row(-1, 0, 1), BAD);
        is("row(8, 0, 1)", x.row(8, 0, 1), BAD);
        is("row(0, -1, 1)", x.row(0, -1, 1), BAD);
        is("row(0, 3, 1)", x.row(0, 3, 1), BAD);
        is("row(0, 0, 41)", x.row(0, 0, 41), BAD);
        is("row(8, 0, -1)", x.row(8, 0, -1), BAD);
        is("row(0, 3, -1)", x.row(0, 3, -1), BAD);
        is("row(7, 0, -1)", x.row(7, 0, -1), SIZE);
        is("row(7, 0, min)", x.row(7, 0, Integer.MIN_VALUE), SIZE);
        is("set(7, 39, 70000)", x.set(7, 39, 70000), 70000);
        is("row(7, 1, 40)", x.row(7, 1, 40), 40);
        x.row(6, 1, 1);
        is("copy(7, 39, 6, 0, 1)", x.copy(7, 39, 6, 0, 1), 1);
        BorderBeds y = on("posts 0 0 1;");
        y.row(0, 2, 8);
        put(y, 0, 0, 3, 3, 3, 3, 3, 3, 3, 3);
        y.row(0, 0, 8);
        is("went(0, 0, 2): anew, ITEMS are 0", y.went(0, 0, 2), 1);
    }

    private static void promise3() {
        promise = 3;
        BorderBeds x = new BorderBeds();
        is("set(0, 0, 1)", x.set(0, 0, 1), NULL);
        x.row(0, 0, 3);
        x.row(1, 1, 3);
        x.row(2, 2, 3);
        is("set(0, 0, 127)", x.set(0, 0, 127), 127);
        is("set(0, 1, 128)", x.set(0, 1, 128), -128);
        is("set(0, 2, 511)", x.set(0, 2, 511), -1);
        is("set(1, 0, 32767)", x.set(1, 0, 32767), 32767);
        is("set(1, 1, 32768)", x.set(1, 1, 32768), -32768);
        is("set(1, 2, 65536)", x.set(1, 2, 65536), 0);
        is("set(2, 0, max)", x.set(2, 0, Integer.MAX_VALUE), Integer.MAX_VALUE);
        is("set(2, 1, min)", x.set(2, 1, Integer.MIN_VALUE), Integer.MIN_VALUE);
        is("set(2, 3, 0)", x.set(2, 3, 0), PLACE);
        is("set(2, -1, 0)", x.set(2, -1, 0), PLACE);
        is("set(2, min, 0)", x.set(2, Integer.MIN_VALUE, 0), PLACE);
        is("set(2, max, 0)", x.set(2, Integer.MAX_VALUE, 0), PLACE);
        is("set(-1, 0, 0)", x.set(-1, 0, 0), BAD);
        is("set(8, 99, 0)", x.set(8, 99, 0), BAD);
        is("set(3, 99, 0)", x.set(3, 99, 0), NULL);
    }

    private static void promise4() {
        promise = 4;
        BorderBeds x = on("posts 0 0 1;");
        x.row(0, 0, 12);
        x.row(1, 0, 8);
        x.row(2, 1, 8);
        is("copy(8, 0, 0, 0, 0)", x.copy(8, 0, 0, 0, 0), BAD);
        is("copy(0, 0, -1, 0, 0)", x.copy(0, 0, -1, 0, 0), BAD);
        is("copy(3, 0, 9, 0, 0)", x.copy(3, 0, 9, 0, 0), BAD);
        is("copy(3, 0, 0, 0, 0)", x.copy(3, 0, 0, 0, 0), NULL);
        is("copy(0, 0, 3, 0, -1)", x.copy(0, 0, 3, 0, -1), NULL);
        is("copy(0, 0, 2, 0, -1)", x.copy(0, 0, 2, 0, -1), STORE);
        is("copy(0, -1, 1, 0, 1)", x.copy(0, -1, 1, 0, 1), PLACE);
        is("copy(0, 0, 1, -1, 1)", x.copy(0, 0, 1, -1, 1), PLACE);
        is("copy(0, 0, 1, 0, -1)", x.copy(0, 0, 1, 0, -1), PLACE);
        is("copy(0, 5, 1, 0, 8)", x.copy(0, 5, 1, 0, 8), PLACE);
        is("copy(0, 0, 1, 1, 8)", x.copy(0, 0, 1, 1, 8), PLACE);
        is("copy(0, max, 1, 0, max)", x.copy(0, Integer.MAX_VALUE, 1, 0, Integer.MAX_VALUE), PLACE);
        is("copy(0, 13, 1, 0, 0)", x.copy(0, 13, 1, 0, 0), PLACE);
        is("copy(0, 12, 1, 8, 0)", x.copy(0, 12, 1, 8, 0), 0);
        put(x, 0, 0, 1, 2, 3, 4, 5, 6);
        is("copy(0, 0, 0, 1, 6), over itself", x.copy(0, 0, 0, 1, 6), 6);
        is("copy(0, 0, 1, 0, 8)", x.copy(0, 0, 1, 0, 8), 8);
        copiesAsTheyWere();
    }

    /** Sees ITEMS by went(): the south has just so many CELLS of each column, or it does not. */
    private static void copiesAsTheyWere() {
        BorderBeds x = on("posts 0 5 6;person envoy 1 0 0 13;person envoy 0 0 0 13;");
        x.cross(1, 8);
        x.cross(0, 0);
        int[] south = new int[8];
        for (int column = 0; column < 8; column++) {
            for (int y = 0; y < 6; y++) {
                south[column] += x.cell(8 * y + column, 0) == 0 ? 1 : 0;
            }
        }
        x.row(0, 2, 10);
        put(x, 0, 0, south);
        is("copy(0, 0, 0, 2, 8)", x.copy(0, 0, 0, 2, 8), 8);
        is("went(0, 2, 2) behind a copy upwards", x.went(0, 2, 2), 1);
        is("copy(0, 2, 0, 1, 8)", x.copy(0, 2, 0, 1, 8), 8);
        is("went(0, 1, 2) behind a copy downwards", x.went(0, 1, 2), 1);
        x.row(5, 2, 8);
        is("copy(0, 1, 5, 0, 9)", x.copy(0, 1, 5, 0, 9), PLACE);
        is("copy(0, 1, 5, 0, 7)", x.copy(0, 1, 5, 0, 7), 7);
        is("went(5, 0, 2): the last is not copied", x.went(5, 0, 2), south[7] == 0 ? 1 : 0);
        is("copy(0, 8, 5, 7, 1)", x.copy(0, 8, 5, 7, 1), 1);
        is("went(5, 0, 2)", x.went(5, 0, 2), 1);
    }

    private static void promise5() {
        promise = 5;
        BorderBeds x = new BorderBeds();
        is("drop(-1)", x.drop(-1), BAD);
        is("drop(8)", x.drop(8), BAD);
        is("drop(0)", x.drop(0), NULL);
        x.row(0, 1, 17);
        is("drop(0)", x.drop(0), 17);
        is("count(0)", x.count(0), 0);
        is("drop(0) again", x.drop(0), NULL);
        is("set(0, 0, 0)", x.set(0, 0, 0), NULL);
        x.row(0, 1, 0);
        is("drop(0) of no ITEMS", x.drop(0), 0);
    }

    private static void promise6() {
        promise = 6;
        BorderBeds x = new BorderBeds();
        is("feed(0, 0)", x.feed(0, 0), BAD);
        is("feed(0, -1)", x.feed(0, -1), BAD);
        is("feed(0, 9)", x.feed(0, 9), BAD);
        for (int i = 1; i <= 49; i++) {
            is("feed(32.., 8)", x.feed(0x2020202020202020L, 8), 8 * i);
        }
        is("feed(32.., 7)", x.feed(0x2020202020202020L, 7), 399);
        is("feed(.., 2)", x.feed(0x2020L, 2), FULL);
        is("feed(.., 8)", x.feed(0x2020L, 8), FULL);
        is("feed(.., 9)", x.feed(0x2020L, 9), BAD);
        is("count(6)", x.count(6), 399);
        is("feed(.., 1)", x.feed(0x20L, 1), 400);
        is("feed(.., 1) on a full one", x.feed(0x20L, 1), FULL);
        is("ground() of 400 blanks", x.ground(), -1000500);
        is("count(6)", x.count(6), 0);
        x.feed(0x2a2a706f73747320L, 6);
        x.feed(0x2a2a2a2a30203020L, 4);
        x.feed(-1L << 16 | 0x313b, 2);
        is("ground(), highest byte first", x.ground(), 0);
        x.feed(-1L, 8);
        is("ground() of bytes 255", x.ground(), -1000100);
    }

    private static void promise7() {
        promise = 7;
        BorderBeds x = new BorderBeds();
        is("the plainest", read(x, "posts 0 5 6;"), 0);
        is("no blanks that need not be", read(x, "posts0 5 6;guard7 5;person aunt1 7 5 13;"), 1);
        is("blanks anywhere", read(x, " \n posts\n0 \n5\n6 ;\n\nvillage 0 0 99 ; "), 0);
        is("three figures", read(x, "posts 005 000 001;"), 0);
        is("cell(40, 3)", x.cell(40, 3), 0);
        String eight = "posts 0 5 6;" + times("village 1 1 99;", 8) + times("guard 2 2;", 8);
        is("as many as there is room for", read(x, eight + times("person monk 0 0 0 0;", 5)), 5);
        is("cell(9, 2)", x.cell(9, 2), 792);
        is("count(3)", x.count(3), 8);
        is("count(5)", x.count(5), 1);
        is("count(1)", x.count(1), 5);
        BorderBeds y = on("posts 2 2 2;person aunt 0 0 0 13;");
        y.image(0);
        y.row(3, 0, 5);
        y.cross(0, 40);
        is("a FAULT", read(y, "posts 2 2 2"), -1000111);
        is("count(1) stays", y.count(1), 1);
        is("count(2) stays", y.count(2), 1);
        is("count(4) stays", y.count(4), 1);
        is("count(6): the tape is empty", y.count(6), 0);
        is("another GROUND", read(y, "posts 5 5 2;"), 0);
        is("count(2)", y.count(2), 0);
        is("count(4)", y.count(4), 0);
        is("undo()", y.undo(), STATE);
        is("count(0): ROWS stay", y.count(0), 1);
        is("land(0, 0)", y.land(0, 0), 40);
        is("restore(0): IMAGES stay", y.restore(0), 1);
        is("land(0, 0)", y.land(0, 0), 16);
    }

    private static void promise7Faults() {
        String posts = "posts 0 0 1;";
        faultIs("", 0, 1);
        faultIs("  \n", 3, 1);
        faultIs("post 0 0 1;", 0, 1);
        faultIs("postss 0 0 1;", 0, 1);
        faultIs("Posts 0 0 1;", 0, 1);
        faultIs("posts 0 0 1,", 11, 1);
        faultIs("posts\t0 0 1;", 5, 1);
        faultIs("posts 0\r0 1;", 7, 1);
        faultIs("0 0 1;", 0, 1);
        faultIs("posts x 0 1;", 6, 1);
        faultIs("posts 6 0 1;", 6, 2);
        faultIs("posts 999 0 1;", 6, 2);
        faultIs("posts 0000 0 1;", 6, 1);
        faultIs("posts 0 12345678901 1;", 8, 1);
        faultIs("posts 0 6 1;", 8, 2);
        faultIs("posts 0 0 0;", 10, 2);
        faultIs("posts 0 0 7;", 10, 2);
        faultIs("posts 0 0 -1;", 10, 1);
        faultIs("posts 0 0 1 1;", 12, 1);
        faultIs(posts + ";", 12, 1);
        faultIs(posts + " posts 0 0 1;", 13, 1);
        faultIs(posts + "village 8 0 1;", 20, 2);
        faultIs(posts + "village 7 6 1;", 22, 2);
        faultIs(posts + "village 7 5 0;", 24, 2);
        faultIs(posts + "village 7 5 100;", 24, 2);
        faultIs(posts + "village 7 5 1000;", 24, 1);
        faultIs(posts + "village 7 5;", 23, 1);
        faultIs(posts + "guard 8 0;", 18, 2);
        faultIs(posts + "guard 0 6;", 20, 2);
        faultIs(posts + "guard 0 0 0;", 22, 1);
        faultIs(posts + "guard 0 0;village 0 0 1;", 22, 1);
        faultIs(posts + "person aunt 0 0 0 0;guard 0 0;", 32, 1);
        faultIs(posts + "person 0 aunt 0 0 0;", 19, 1);
        faultIs(posts + "person twins 0 0 0 0;", 19, 1);
        faultIs(posts + "person aunt 2 0 0 0;", 24, 2);
        faultIs(posts + "person aunt 1 8 0 0;", 26, 2);
        faultIs(posts + "person aunt 1 7 6 0;", 28, 2);
        faultIs(posts + "person aunt 1 7 5 14;", 30, 2);
        faultIs(posts + "person aunt 1 7 5 13", 32, 1);
        faultIs(posts + "person aunt 1 7 5 13  ", 34, 1);
        faultIs(posts + times("village 0 0 1;", 9), 12 + 8 * 14, 3);
        faultIs(posts + times("village 0 0 1;", 8) + "village 99 x", 12 + 8 * 14, 3);
        faultIs(posts + times("guard 0 0;", 9), 12 + 8 * 10, 3);
        faultIs(posts + times("person aunt 0 0 0 0;", 5) + " person cow", 12 + 5 * 20 + 1, 3);
        faultIs(posts + times("village 0 0 1;", 8) + "guard 0 0;village 0 0 1;",
                12 + 8 * 14 + 10, 1);
        faultIs(posts + times("person aunt 0 0 0 0;", 5) + "guard 0 0;", 12 + 5 * 20, 1);
    }

    private static void promise8() {
        promise = 8;
        BorderBeds x = new BorderBeds();
        is("fault()", x.fault(), 0);
        read(x, "posts 0 0 1;");
        is("fault() behind a GROUND", x.fault(), 0);
        read(x, "posts 0 0 9;");
        is("fault()", x.fault(), 2);
        read(x, "posts 0 0 1;");
        is("fault(): the latest stays", x.fault(), 2);
        read(x, "posts 0 0 1;" + times("guard 0 0;", 9));
        is("fault()", x.fault(), 3);
        x.cross(0, 99);
        read(x, "?");
        is("fault()", x.fault(), 1);
    }

    private static void promise9() {
        promise = 9;
        BorderBeds x = on("posts 2 2 6;guard 3 3;person aunt 0 3 1 2;person envoy 1 7 5 2;"
                + "person monk 0 0 0 13;");
        is("cross(-1, 0)", x.cross(-1, 0), BAD);
        is("cross(3, 0)", x.cross(3, 0), BAD);
        is("cross(0, -1)", x.cross(0, -1), BAD);
        is("cross(0, 48)", x.cross(0, 48), BAD);
        is("cross(0, 27): a guard", x.cross(0, 27), STATE);
        is("cross(0, 12): his own", x.cross(0, 12), STATE);
        is("cross(0, 28): too far", x.cross(0, 28), STATE);
        is("count(4)", x.count(4), 0);
        is("cross(0, 20): nobody's", x.cross(0, 20), 1);
        is("cross(1, 13): an envoy, too far", x.cross(1, 13), STATE);
        is("cross(1, 23): an envoy, MILES and one", x.cross(1, 23), 2);
        is("cross(1, 21): an envoy, too far", x.cross(1, 21), STATE);
        is("cross(1, 22): an envoy, twice MILES", x.cross(1, 22), 3);
        is("cross(2, 40): a monk", x.cross(2, 40), 3);
        is("count(4)", x.count(4), 4);
        is("cross(2, 40): a monk again", x.cross(2, 40), 3);
        is("cell(40, 3)", x.cell(40, 3), 0);
        BorderBeds y = new BorderBeds();
        is("cross(0, 0) without a GROUND", y.cross(0, 0), BAD);
    }

    private static void promise9Corners() {
        BorderBeds x = on("posts 0 5 6;guard 7 3;person twin 0 0 0 13;person envoy 1 0 0 13;");
        owners(x, 0, 0, 1, 1, 1, 1, 1);
        owners(x, 7, 0, 0, 0, 0, 0, 1);
        is("cross(0, 24): a twin, a guard in the other CELL", x.cross(0, 24), 2);
        is("cell(24, 3)", x.cell(24, 3), 1);
        is("cell(31, 3)", x.cell(31, 3), 1);
        owners(x, 0, 0, 0, 0, -1, 1, 1);
        owners(x, 4, 0, 0, 0, -1, 1, 1);
        owners(x, 7, 0, 0, 0, -1, 1, 1);
        is("cross(1, 4): a low CORNER", x.cross(1, 4), 3);
        owners(x, 3, 0, 1, 1, 1, 1, 1);
        owners(x, 4, -1, 1, 1, 1, 1, 1);
        owners(x, 5, 0, -1, 1, 1, 1, 1);
        owners(x, 6, 0, 0, -1, 1, 1, 1);
        is("cross(0, 28): in place of one with its x", x.cross(0, 28), 4);
        is("cell(4, 3)", x.cell(4, 3), 0);
        is("cell(28, 3)", x.cell(28, 3), 1);
        is("cell(27, 3)", x.cell(27, 3), 1);
    }

    private static void promise9Keeps() {
        BorderBeds x = on("posts 0 0 2;person child 0 0 0 13;person aunt 0 0 0 13;"
                + "person twin 0 0 0 13;person monk 0 0 0 13;");
        x.cross(0, 40);
        x.cross(1, 41);
        is("cross(1, 42): what a child made goes", x.cross(1, 42), 2);
        is("cell(40, 3)", x.cell(40, 3), 0);
        is("cell(41, 3)", x.cell(41, 3), 1);
        is("cross(0, 47): what a child made, though the newest", x.cross(0, 47), 2);
        is("cell(47, 3)", x.cell(47, 3), 0);
        is("cell(41, 3)", x.cell(41, 3), 1);
        is("cross(1, 41), the newest by that", x.cross(1, 41), 2);
        is("cross(3, 47): a monk", x.cross(3, 47), 2);
        is("cross(1, 43): the oldest goes", x.cross(1, 43), 2);
        is("cell(41, 3)", x.cell(41, 3), 1);
        is("cell(42, 3)", x.cell(42, 3), 0);
        is("cross(2, 40): both of a twin's, two go", x.cross(2, 40), 2);
        is("cell(40, 3)", x.cell(40, 3), 1);
        is("cell(47, 3)", x.cell(47, 3), 1);
        BorderBeds y = on("posts 0 0 1;person twin 0 0 0 13;person child 0 0 0 13;");
        y.cross(0, 42);
        is("cell(45, 3): of one CORNER a twin's second", y.cell(45, 3), 1);
        is("cross(0, 41)", y.cross(0, 41), 1);
        is("cell(46, 3)", y.cell(46, 3), 1);
        BorderBeds z = on("posts 0 0 2;person aunt 0 0 0 13;person twin 0 0 0 13;");
        z.cross(0, 45);
        z.cross(0, 44);
        is("cross(1, 42): in place of the oldest, then one goes", z.cross(1, 42), 2);
        is("cell(44, 3)", z.cell(44, 3), 0);
        is("cell(42, 3)", z.cell(42, 3), 1);
        is("cell(45, 3)", z.cell(45, 3), 1);
        BorderBeds w = on("posts 0 0 2;person child 0 0 0 13;person envoy 1 0 0 13;"
                + "person aunt 0 0 0 13;");
        w.cross(0, 42);
        w.cross(1, 2);
        w.cross(2, 43);
        is("a CORNER made anew by another one is his: cell(2, 3)", w.cell(2, 3), 1);
        is("cross(2, 44)", w.cross(2, 44), 2);
        is("cell(2, 3) goes as the oldest", w.cell(2, 3), 0);
        is("cell(43, 3)", w.cell(43, 3), 1);
    }

    private static void promise10() {
        promise = 10;
        BorderBeds x = on("posts 0 0 1;person monk 0 0 0 13;person aunt 0 0 0 13;");
        is("undo()", x.undo(), STATE);
        x.cross(1, 40);
        x.cross(1, 42);
        is("undo()", x.undo(), 1);
        is("cell(40, 3)", x.cell(40, 3), 1);
        is("cell(42, 3)", x.cell(42, 3), 0);
        owners(x, 0, 0, 0, 0, 0, 0, -1);
        is("undo()", x.undo(), 0);
        is("land(0, 0)", x.land(0, 0), 0);
        is("count(2)", x.count(2), 0);
        is("undo()", x.undo(), STATE);
        x.cross(1, 40);
        x.cross(1, 41);
        for (int i = 0; i < 23; i++) {
            x.cross(0, 47);
        }
        is("count(4): 24 at most", x.count(4), 24);
        for (int left = 23; left >= 0; left--) {
            is("undo()", x.undo(), left);
        }
        is("undo()", x.undo(), STATE);
        is("cell(40, 3): what is forgotten stays done", x.cell(40, 3), 1);
        is("cell(41, 3)", x.cell(41, 3), 0);
    }

    private static void promise11() {
        promise = 11;
        BorderBeds x = on("posts 3 3 1;guard 0 4;person aunt 0 0 3 2;person envoy 1 7 5 13;");
        is("person(0, 0)", x.person(0, 0), 0);
        is("person(0, 1)", x.person(0, 1), 24);
        is("person(0, 2)", x.person(0, 2), 2);
        is("person(0, 3)", x.person(0, 3), 5);
        is("person(1, 0)", x.person(1, 0), 1);
        is("person(1, 1)", x.person(1, 1), 47);
        is("person(1, 2)", x.person(1, 2), 13);
        is("person(1, 3)", x.person(1, 3), 32);
        is("person(0, -1)", x.person(0, -1), BAD);
        is("person(0, 4)", x.person(0, 4), BAD);
        is("person(2, 0)", x.person(2, 0), BAD);
        is("person(-1, 0)", x.person(-1, 0), BAD);
    }

    private static void promise12() {
        promise = 12;
        BorderBeds x = on("posts 0 3 6;village 1 1 7;village 1 1 8;guard 1 1;"
                + "person aunt 0 0 0 13;");
        owners(x, 0, 0, 1, 1, 1, 1, 1);
        owners(x, 1, 0, 1, 1, 1, 1, 1);
        owners(x, 2, 0, -1, 1, 1, 1, 1);
        owners(x, 5, 0, 0, -1, 1, 1, 1);
        owners(x, 7, 0, 0, 0, 1, 1, 1);
        is("cell(9, 1)", x.cell(9, 1), 1);
        is("cell(10, 1)", x.cell(10, 1), 0);
        is("cell(9, 2)", x.cell(9, 2), 15);
        is("cell(10, 2)", x.cell(10, 2), 0);
        is("cell(10, 3)", x.cell(10, 3), 0);
        x.cross(0, 10);
        is("cell(10, 3)", x.cell(10, 3), 1);
        is("cell(18, 3): its column alone", x.cell(18, 3), 0);
        is("cell(-1, 0)", x.cell(-1, 0), BAD);
        is("cell(48, 0)", x.cell(48, 0), BAD);
        is("cell(0, -1)", x.cell(0, -1), BAD);
        is("cell(47, 4)", x.cell(47, 4), BAD);
    }

    private static void promise13() {
        promise = 13;
        BorderBeds x = on("posts 2 2 1;village 0 1 5;village 7 5 9;village 4 2 50;");
        is("land(0, 0)", x.land(0, 0), 16);
        is("land(1, 0)", x.land(1, 0), 24);
        is("land(0, 1)", x.land(0, 1), 5);
        is("land(1, 1)", x.land(1, 1), 9);
        is("land(0, 2)", x.land(0, 2), -4);
        is("land(1, 2)", x.land(1, 2), 4);
        is("land(2, 0)", x.land(2, 0), BAD);
        is("land(-1, 0)", x.land(-1, 0), BAD);
        is("land(0, 3)", x.land(0, 3), BAD);
        is("land(0, -1)", x.land(0, -1), BAD);
        BorderBeds y = on("posts 5 5 1;");
        is("land(1, 0): at the upper edge", y.land(1, 0), 0);
        is("land(0, 0)", y.land(0, 0), 40);
    }

    private static void promise14() {
        promise = 14;
        BorderBeds x = on("posts 2 2 6;village 3 3 5;person aunt 0 3 2 2;person monk 0 3 2 3;"
                + "person aunt 0 3 0 0;person aunt 0 3 2 0;");
        is("best(0, 1): the village comes to him", x.best(0, 1), 5);
        is("best(0, 0)", x.best(0, 0), 35);
        is("best(1, 0): a monk, the least CELL", x.best(1, 0), 16);
        is("best(1, 1)", x.best(1, 1), -5);
        is("best(2, 0): no CELL", x.best(2, 0), NONE);
        is("best(2, 1)", x.best(2, 1), NONE);
        is("best(3, 0): one CELL, nothing by it", x.best(3, 0), 19);
        is("best(0, 2)", x.best(0, 2), BAD);
        is("best(0, -1)", x.best(0, -1), BAD);
        is("best(4, 0)", x.best(4, 0), BAD);
        is("best(-1, 0)", x.best(-1, 0), BAD);
        is("count(2): nothing changes", x.count(2), 0);
        is("count(4)", x.count(4), 0);
        BorderBeds y = on("posts 2 2 6;person envoy 0 0 2 13;person aunt 1 2 2 1;");
        is("best(0, 0): most HAS, the least CELL", y.best(0, 0), 40);
        is("best(1, 0): of like LEAD most of the north", y.best(1, 0), 10);
    }

    private static void promise15() {
        promise = 15;
        BorderBeds x = on("posts 2 2 6;village 3 3 5;person aunt 0 3 2 2;person aunt 1 3 4 2;"
                + "person aunt 0 3 0 0;person aunt 1 4 4 1;");
        is("best(1, 0)", x.best(1, 0), 19);
        is("answer(0, 1, 0): the CORNER of the first is taken away", x.answer(0, 1, 0), 19);
        is("answer(0, 1, 1)", x.answer(0, 1, 1), 5);
        is("answer(0, 3, 0): behind 35 the village is out of reach", x.answer(0, 3, 0), 28);
        is("answer(0, 3, 1)", x.answer(0, 3, 1), -5);
        is("answer(2, 1, 0): the first has no BEST", x.answer(2, 1, 0), 19);
        is("answer(2, 1, 1)", x.answer(2, 1, 1), 5);
        is("answer(0, 2, 0): no CELL", x.answer(0, 2, 0), NONE);
        is("answer(0, 2, 1)", x.answer(0, 2, 1), NONE);
        is("answer(0, 0, 0)", x.answer(0, 0, 0), BAD);
        is("answer(0, 4, 0)", x.answer(0, 4, 0), BAD);
        is("answer(-1, 0, 0)", x.answer(-1, 0, 0), BAD);
        is("answer(0, 1, 2)", x.answer(0, 1, 2), BAD);
        is("answer(0, 1, -1)", x.answer(0, 1, -1), BAD);
        is("count(2): nothing changes", x.count(2), 0);
    }

    private static void promise16() {
        promise = 16;
        BorderBeds x = on("posts 3 3 1;person twin 0 0 0 13;person twin 1 7 5 13;");
        is("game(0, 1, 0): -1 first of like ones", x.game(0, 1, 0), -1);
        is("game(0, 1, 1)", x.game(0, 1, 1), 0);
        BorderBeds y = on("posts 2 2 6;village 3 3 5;person aunt 0 3 2 2;person aunt 1 3 4 0;"
                + "person aunt 0 3 0 0;");
        is("game(0, 1, 0)", y.game(0, 1, 0), 35);
        is("game(0, 1, 1): the other one gains nothing", y.game(0, 1, 1), 5);
        is("game(2, 0, 0): he may not", y.game(2, 0, 0), -1);
        is("game(2, 0, 1): the other one goes", y.game(2, 0, 1), 5);
        is("game(0, 0, 0)", y.game(0, 0, 0), BAD);
        is("game(0, 3, 0)", y.game(0, 3, 0), BAD);
        is("game(3, 0, 0)", y.game(3, 0, 0), BAD);
        is("game(0, 1, 2)", y.game(0, 1, 2), BAD);
        is("game(0, 1, -1)", y.game(0, 1, -1), BAD);
        is("count(2): nothing changes", y.count(2), 0);
        is("count(4)", y.count(4), 0);
    }

    private static void promise17() {
        promise = 17;
        BorderBeds x = on("posts 2 2 6;village 3 1 5;person aunt 1 3 4 4;person aunt 0 3 0 9;"
                + "person monk 1 0 0 1;");
        is("held(0, 5, -1)", x.held(0, 5, -1), 2);
        is("held(0, 5, 0)", x.held(0, 5, 0), 3);
        is("held(0, 5, 1)", x.held(0, 5, 1), 11);
        is("held(0, 5, 2)", x.held(0, 5, 2), NONE);
        is("held(0, 5, max)", x.held(0, 5, Integer.MAX_VALUE), NONE);
        is("held(0, 0, -1): below nothing", x.held(0, 0, -1), 0);
        is("held(0, 0, 0)", x.held(0, 0, 0), NONE);
        is("held(0, 6, 0): a monk's, too", x.held(0, 6, 0), 0);
        is("held(0, 999, -1)", x.held(0, 999, -1), 12);
        is("held(1, 1, -1)", x.held(1, 1, -1), 32);
        is("held(2, 5, -1)", x.held(2, 5, -1), BAD);
        is("held(-1, 5, -1)", x.held(-1, 5, -1), BAD);
        is("held(0, -1, -1)", x.held(0, -1, -1), BAD);
        is("held(0, 1000, -1)", x.held(0, 1000, -1), BAD);
        is("held(0, 5, -2)", x.held(0, 5, -2), BAD);
    }

    private static void promise18() {
        promise = 18;
        BorderBeds x = on("posts 2 2 6;person aunt 0 3 2 1;person monk 0 3 2 1;"
                + "person aunt 1 3 4 13;");
        is("went(0, 0, 0)", x.went(0, 0, 0), NULL);
        x.row(0, 0, 9);
        put(x, 0, 0, 6, 2, 2, 2, 2, 2, 2, 2, 2);
        is("went(-1, 0, 0)", x.went(-1, 0, 0), BAD);
        is("went(8, 0, 0)", x.went(8, 0, 0), BAD);
        is("went(0, 0, 3)", x.went(0, 0, 3), BAD);
        is("went(7, 0, -1)", x.went(7, 0, -1), BAD);
        is("went(0, -1, 0)", x.went(0, -1, 0), PLACE);
        is("went(0, 2, 0)", x.went(0, 2, 0), PLACE);
        is("went(0, 1, 2): so it is now", x.went(0, 1, 2), 1);
        is("went(0, 0, 2): 6 fits nothing", x.went(0, 0, 2), 0);
        is("went(0, 0, 0)", x.went(0, 0, 0), 0);
        is("went(0, 0, 1)", x.went(0, 0, 1), NONE);
        is("went(0, 1, 0)", x.went(0, 1, 0), 3 + 4 + 8);
        is("went(0, 1, 1)", x.went(0, 1, 1), 18);
        put(x, 0, 1, 3, 3, 3, 3, 3, 3, 3, 3);
        is("went(0, 1, 0): one up in the middle", x.went(0, 1, 0), 1);
        is("went(0, 1, 1)", x.went(0, 1, 1), 27);
        put(x, 0, 1, 2, 2, 2, 1, 2, 2, 2, 2);
        is("went(0, 1, 0): one down in the middle", x.went(0, 1, 0), 1);
        is("went(0, 1, 1)", x.went(0, 1, 1), 2 * 48 + 11);
        is("went(0, 1, 2)", x.went(0, 1, 2), 0);
        x.set(0, 8, 7);
        is("went(0, 1, 2): an ITEM of 7", x.went(0, 1, 2), BAD);
        is("went(0, 2, 2): PLACE ahead of that", x.went(0, 2, 2), PLACE);
        x.set(0, 8, -1);
        is("went(0, 1, 0): an ITEM of -1", x.went(0, 1, 0), BAD);
        is("count(4): nothing changes", x.count(4), 0);
    }

    private static void promise19() {
        promise = 19;
        BorderBeds x = new BorderBeds();
        is("image(-1)", x.image(-1), BAD);
        is("image(2)", x.image(2), BAD);
        is("image(0)", x.image(0), STATE);
        read(x, "posts 0 0 1;person aunt 0 0 0 13;");
        is("image(0)", x.image(0), 1);
        x.cross(0, 40);
        is("image(1)", x.image(1), 1);
        is("count(4): an image is no end of ACTS", x.count(4), 1);
        read(x, "posts 5 5 1;");
        x.restore(0);
        is("count(2): as it was kept", x.count(2), 0);
        x.restore(1);
        is("count(2)", x.count(2), 1);
        x.cross(0, 43);
        is("image(1) in place of the one before", x.image(1), 1);
        x.restore(0);
        x.restore(1);
        is("cell(43, 3)", x.cell(43, 3), 1);
    }

    private static void promise20() {
        promise = 20;
        BorderBeds x = on("posts 2 3 2;village 1 1 4;guard 5 5;person child 0 0 0 13;"
                + "person aunt 0 0 0 13;");
        is("restore(-1)", x.restore(-1), BAD);
        is("restore(2)", x.restore(2), BAD);
        is("restore(0)", x.restore(0), STATE);
        x.cross(0, 40);
        x.cross(1, 41);
        int has = x.land(0, 0);
        x.image(0);
        is("restore(1): the other one is not kept", x.restore(1), STATE);
        x.undo();
        x.cross(1, 44);
        read(x, "posts 0 0 1;");
        is("restore(0)", x.restore(0), 1);
        is("count(1)", x.count(1), 2);
        is("count(2)", x.count(2), 2);
        is("count(3)", x.count(3), 1);
        is("count(4)", x.count(4), 0);
        is("count(5)", x.count(5), 1);
        is("undo()", x.undo(), STATE);
        is("land(0, 0)", x.land(0, 0), has);
        is("cross(1, 47): what a child made is known yet", x.cross(1, 47), 2);
        is("cell(40, 3)", x.cell(40, 3), 0);
        is("cell(41, 3)", x.cell(41, 3), 1);
        is("restore(0) again", x.restore(0), 1);
        is("cell(40, 3)", x.cell(40, 3), 1);
        is("count(4)", x.count(4), 0);
    }

    private static BorderBeds people() {
        return on("posts 2 2 1;person twin 0 3 0 6;person monk 1 0 5 9;person child 0 7 0 13;"
                + "person envoy 1 5 5 2;person aunt 0 2 1 4;");
    }

    private static void promise21() {
        promise = 21;
        BorderBeds x = people();
        int[] kinds = {3, 5, 4, 2, 1};
        for (int n = 0; n < 5; n++) {
            is("kind(" + n + ")", x.kind(n), kinds[n]);
        }
        is("kind(5)", x.kind(5), BAD);
        is("kind(-1)", x.kind(-1), BAD);
    }

    private static void promise22() {
        promise = 22;
        BorderBeds x = people();
        String[] is = {"110100", "100011", "100010", "111000", "110000"};
        for (int n = 0; n < 5; n++) {
            for (int kind = 0; kind <= 5; kind++) {
                is("as(" + n + ", " + kind + ")", x.as(n, kind),
                        is[n].charAt(kind) == '1' ? n : KIND);
            }
            is("as(" + n + ", 6)", x.as(n, 6), BAD);
            is("as(" + n + ", -1)", x.as(n, -1), BAD);
        }
        is("as(5, 0)", x.as(5, 0), BAD);
        is("as(-1, 0)", x.as(-1, 0), BAD);
        is("kind(3): he stays what he is", x.kind(3), 2);
    }

    private static void asks(BorderBeds x, int person, int what, int due, int... bodies) {
        is("ask(" + person + ", " + what + ")", x.ask(person, what), due);
        for (int i = 0; i < bodies.length; i++) {
            is("trace(" + i + ")", x.trace(i), bodies[i]);
        }
        is("trace(" + bodies.length + ")", x.trace(bodies.length), NONE);
    }

    private static void promise23() {
        promise = 23;
        BorderBeds x = people();
        asks(x, 0, 0, 6 + 0 + 3 - 1000, 11, 10, 22, 21, 20);
        asks(x, 0, 1, 0 + 3 - 1000, 22, 21, 20);
        asks(x, 1, 0, 2 * (9 - 100), 14, 13, 10);
        asks(x, 1, 1, 1 - 2 * (9 - 100), 23, 20, 14, 13, 10);
        asks(x, 2, 0, 13 - 100, 13, 10);
        asks(x, 2, 1, 2 - (13 - 100), 23, 20, 13, 10);
        asks(x, 3, 0, 0 - (2 + 2 * (3 + 45)), 12, 11, 10, 24, 21, 20);
        asks(x, 3, 1, 2 * (3 + 45), 24, 21, 20);
        asks(x, 4, 0, 4 + 4 + 10, 11, 10, 21, 20);
        asks(x, 4, 1, 4 + 10, 21, 20);
        is("ask(4, 2)", x.ask(4, 2), BAD);
        is("ask(4, -1)", x.ask(4, -1), BAD);
        is("ask(5, 0)", x.ask(5, 0), BAD);
        is("ask(-1, 0)", x.ask(-1, 0), BAD);
        is("trace(0): where it is refused it stays", x.trace(0), 21);
    }

    private static void promise24() {
        promise = 24;
        BorderBeds x = people();
        is("trace(0)", x.trace(0), NONE);
        x.ask(3, 0);
        is("trace(5)", x.trace(5), 20);
        is("trace(6)", x.trace(6), NONE);
        is("trace(15)", x.trace(15), NONE);
        is("trace(16)", x.trace(16), NONE);
        is("trace(-1)", x.trace(-1), NONE);
        is("trace(min)", x.trace(Integer.MIN_VALUE), NONE);
        x.ask(2, 0);
        is("trace(1)", x.trace(1), 10);
        is("trace(2): empty ahead of an ASK", x.trace(2), NONE);
        read(x, "posts 0 0 1;");
        is("trace(0): it stays", x.trace(0), 13);
    }

    private static void promise25() {
        promise = 25;
        BorderBeds x = on("posts 2 2 3;village 0 0 1;village 0 0 1;guard 7 0;guard 7 0;guard 6 0;"
                + "person aunt 0 2 1 4;person twin 0 0 0 13;person monk 0 0 0 13;");
        x.row(1, 0, 1);
        x.row(5, 0, 0);
        x.row(1, 2, 1);
        x.cross(1, 40);
        x.cross(2, 40 + 4);
        x.feed(0, 3);
        int[] due = {2, 3, 2, 2, 2, 2, 3};
        for (int what = 0; what < 7; what++) {
            is("count(" + what + ")", x.count(what), due[what]);
        }
        is("count(7)", x.count(7), BAD);
        is("count(-1)", x.count(-1), BAD);
    }

    private static void promise26() {
        promise = 26;
        BorderBeds x = new BorderBeds();
        is("status()", x.status(), 0);
        x.row(0, 0, -1);
        is("status(): SIZE", x.status(), 4);
        x.row(9, 0, -1);
        x.set(9, 0, 0);
        x.went(0, 0, 0);
        x.as(0, 0);
        x.feed(0, 0);
        x.count(0);
        is("status(): what is refused leaves it", x.status(), 4);
        x.row(0, 2, 8);
        is("status()", x.status(), 0);
        x.set(1, 0, 0);
        is("status(): NULL", x.status(), 1);
        x.set(0, 0, -1000015);
        is("status(): an ITEM is no FINDING", x.status(), 0);
        x.set(0, 8, 0);
        is("status(): PLACE", x.status(), 2);
        x.set(0, 0, BAD);
        is("status(): an ITEM is no refusal", x.status(), 0);
        x.row(1, 0, 8);
        x.copy(0, 0, 1, 0, 1);
        is("status(): STORE", x.status(), 5);
        x.copy(0, 0, 0, 1, 1);
        is("status()", x.status(), 0);
        x.drop(3);
        is("status(): NULL", x.status(), 1);
        x.drop(1);
        is("status()", x.status(), 0);
        read(x, "posts 0 0 1;person aunt 0 0 0 13;");
        x.as(0, 4);
        is("status(): KIND", x.status(), 3);
        x.as(0, 9);
        x.ask(0, 0);
        x.kind(0);
        is("status() stays", x.status(), 3);
        x.as(0, 1);
        is("status()", x.status(), 0);
        x.went(0, 1, 0);
        is("status(): PLACE of went()", x.status(), 2);
        x.went(0, 0, 0);
        is("status(): an ITEM is BAD", x.status(), 2);
        x.set(0, 0, 0);
        x.set(0, 1, 0);
        x.went(4, 0, 0);
        is("status(): NULL of went()", x.status(), 1);
        x.went(0, 0, 0);
        is("status()", x.status(), 0);
    }
}
