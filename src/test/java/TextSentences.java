/** The sentences of THE TAPE and of a GROUND's text: "Terms" 1, and promises 1, 6 and 7. */
final class TextSentences extends Sentences {
    static void all() {
        newObject();
        tapeFillsUp();
        tapeFullIsRead();
        tapeIsEmptyThen();
        feedTakesLowestBytes();
        feedRefused();
        feedFull();
        names();
        words();
        numbers();
        signs();
        blanks();
        noBlankNeeded();
        posts();
        villages();
        villagesOfOneCell();
        guards();
        persons();
        sorts();
        lands();
        people();
        noneOfAll();
        allFull();
        groundInPlace();
        groundStays();
        faultLeavesAll();
    }

    private static void newObject() {
        holds("Promise 1", "No GROUND.");
        BorderBeds x = new BorderBeds();
        for (int what = 0; what <= 6; what++) {
            is("count(" + what + ")", x.count(what), 0);
        }
        is("fault()", x.fault(), 0);
        is("status()", x.status(), 0);
        is("trace(0)", x.trace(0), NONE);
        is("cell(0, 0)", x.cell(0, 0), STATE);
        is("land(0, 0)", x.land(0, 0), STATE);
        is("held(0, 0, 0)", x.held(0, 0, 0), STATE);
        is("went(0, 0, 0)", x.went(0, 0, 0), STATE);
        is("undo()", x.undo(), STATE);
        is("image(0)", x.image(0), STATE);
        is("restore(0)", x.restore(0), STATE);
        is("cross(0, 0)", x.cross(0, 0), BAD);
        is("person(0, 0)", x.person(0, 0), BAD);
        is("best(0, 0)", x.best(0, 0), BAD);
        is("answer(0, 1, 0)", x.answer(0, 1, 0), BAD);
        is("game(0, 1, 0)", x.game(0, 1, 0), BAD);
        is("kind(0)", x.kind(0), BAD);
        is("as(0, 0)", x.as(0, 0), BAD);
        is("ask(0, 0)", x.ask(0, 0), BAD);
    }

    private static void tapeFillsUp() {
        holds("Terms", "THE TAPE has at most 400 bytes");
        BorderBeds x = new BorderBeds();
        for (int n = 8; n <= 400; n += 8) {
            is("feed(0, 8)", x.feed(0, 8), n);
        }
        is("feed(0, 1)", x.feed(0, 1), FULL);
        is("count(6)", x.count(6), 400);
        BorderBeds y = new BorderBeds();
        for (int n = 1; n <= 400; n++) {
            is("feed(32, 1)", y.feed(32, 1), n);
        }
        is("feed(32, 1)", y.feed(32, 1), FULL);
        is("ground(): the end is at 400", y.ground(), -1000500);
        is("count(6): empty then", y.count(6), 0);
        is("feed(0, 8): room again", y.feed(0, 8), 8);
    }

    private static void tapeFullIsRead() {
        holds("Terms", "THE TAPE has at most 400 bytes");
        reads(" ".repeat(388) + "posts 0 0 1;", 0);
        reads("posts 0 0 1;" + "\n".repeat(388), 0);
        faults(" ".repeat(388) + "posts 0 0 1?", 399, 1);
        faults(" ".repeat(390) + "posts 0 0 ", 400, 1);
        faults(" ".repeat(396) + "post", 396, 1);
        faults(" ".repeat(389) + "posts 0 0 1", 400, 1);
        faults(" ".repeat(387) + "posts 0 0 000", 397, 2);
        faults(" ".repeat(386) + "posts 0 0 0001", 396, 1);
    }

    private static void tapeIsEmptyThen() {
        holds("Promise 7", "The tape, empty then, is read");
        BorderBeds x = new BorderBeds();
        is("ground(): one too many", read(x, "posts 0 0 1;posts"), -1000112);
        is("ground(): nothing is left behind the end", read(x, "posts 0 0 1;"), 0);
        is("ground(): a NUMBER goes on", read(x, "posts 0 0 1111111"), -1000110);
        is("ground(): no more", read(x, "posts 0 0 1"), -1000111);
        is("ground(): a NAME goes on", read(x, "postsabc"), -1000100);
        is("ground(): no more", read(x, "posts"), -1000105);
        is("ground(): it stood behind that", read(x, "posts 0 0 1;"), 0);
    }

    private static void feedTakesLowestBytes() {
        holds("Promise 6", "The lowest n bytes of w (1 to 8), the highest of them first,"
                + " come behind the tape: how many it has.");
        BorderBeds x = new BorderBeds();
        is("feed('posts 0 ', 8)", x.feed(0x706f737473203020L, 8), 8);
        is("feed('????0 1;', 4)", x.feed(0x3f3f3f3f3020313bL, 4), 12);
        is("ground()", x.ground(), 0);
        String text = "posts 1 2 3;";
        for (int n = 1; n <= 8; n++) {
            BorderBeds y = new BorderBeds();
            long w = -1;
            for (int k = 0; k < n; k++) {
                w = w << 8 | text.charAt(k);
            }
            is("feed(w, " + n + ")", y.feed(w, n), n);
            feed(y, text.substring(n));
            is("ground()", y.ground(), 0);
        }
        BorderBeds z = new BorderBeds();
        is("feed(-1, 8)", z.feed(-1L, 8), 8);
        is("ground(): bytes 255", z.ground(), -1000100);
        is("feed(.., 8): the highest bit set", z.feed(0xbb20202020202020L, 8), 8);
        is("ground(): the first byte is none", z.ground(), -1000100);
        is("feed(least, 8)", z.feed(Long.MIN_VALUE, 8), 8);
        is("ground(): the first byte is none", z.ground(), -1000100);
    }

    private static void feedRefused() {
        holds("Promise 6", "BAD: n; FULL: none comes.");
        BorderBeds x = new BorderBeds();
        is("feed(0, 0)", x.feed(0, 0), BAD);
        is("feed(0, -1)", x.feed(0, -1), BAD);
        is("feed(0, 9)", x.feed(0, 9), BAD);
        is("feed(0, min)", x.feed(0, MIN), BAD);
        is("feed(0, max)", x.feed(0, MAX), BAD);
        is("count(6)", x.count(6), 0);
        feed(x, " ".repeat(400));
        is("feed(0, 0): BAD and FULL", x.feed(0, 0), BAD);
        is("feed(0, 9): BAD and FULL", x.feed(0, 9), BAD);
        is("feed(0, 1)", x.feed(0, 1), FULL);
        is("count(6)", x.count(6), 400);
    }

    private static void feedFull() {
        holds("Promise 6", "FULL: none comes.");
        BorderBeds x = new BorderBeds();
        feed(x, " ".repeat(384) + "posts0 ");
        is("count(6)", x.count(6), 391);
        is("feed('0 1;    ', 8)", x.feed(0x30_20_31_3b_20_20_20_20L, 8), 399);
        is("feed('??', 2): not even one", x.feed(0x3f3f, 2), FULL);
        is("feed('????????', 8)", x.feed(0x3f3f3f3f3f3f3f3fL, 8), FULL);
        is("count(6)", x.count(6), 399);
        is("feed(' ', 1)", x.feed(0x20, 1), 400);
        is("ground()", x.ground(), 0);
    }

    private static void names() {
        holds("Terms", "NAMES (letters a to z)");
        faults("postsa 0 0 1;", 0, 1);
        faults("postsz 0 0 1;", 0, 1);
        faults("aposts 0 0 1;", 0, 1);
        faults("posts` 0 0 1;", 5, 1);
        faults("posts{ 0 0 1;", 5, 1);
        faults("postsA 0 0 1;", 5, 1);
        faults("postsZ 0 0 1;", 5, 1);
        faults("Posts 0 0 1;", 0, 1);
        faults("posts_0 0 1;", 5, 1);
        faults("post 0 0 1;", 0, 1);
        faults("postt 0 0 1;", 0, 1);
        faults("posts posts 0 0 1;", 6, 1);
        faults("abcdefghijklmnopqrstuvwxyz".repeat(4) + " 0 0 1;", 0, 1);
    }

    /** Each letter of each word counts: with another one in its place it is no such word. */
    private static void words() {
        holds("Terms", "SORT: 'aunt' | 'envoy' | 'child' | 'monk' | 'twin'");
        String[] ahead = {"", FLAT, FLAT, FLAT, FLAT + "person ", FLAT + "person ",
            FLAT + "person ", FLAT + "person ", FLAT + "person "};
        String[] words = {"posts", "village", "guard", "person", "aunt", "envoy", "child", "monk",
            "twin"};
        String[] behind = {" 0 0 1;", " 0 0 1;", " 0 0;", " aunt 0 0 0 0;", " 0 0 0 0;",
            " 0 0 0 0;", " 0 0 0 0;", " 0 0 0 0;", " 0 0 0 0;"};
        for (int n = 0; n < words.length; n++) {
            reads(ahead[n] + words[n] + behind[n], n < 3 ? 0 : 1);
            for (int i = 0; i < words[n].length(); i++) {
                StringBuilder other = new StringBuilder(words[n]);
                other.setCharAt(i, words[n].charAt(i) == 'z' ? 'y' : 'z');
                faults(ahead[n] + other + behind[n], ahead[n].length(), 1);
                other.deleteCharAt(i);
                faults(ahead[n] + other + behind[n], ahead[n].length(), 1);
            }
        }
    }

    private static void numbers() {
        holds("Terms", "NUMBERS (figures, 3 at most)");
        reads("posts 005 000 006;", 0);
        reads("posts 05 00 06;", 0);
        reads("posts 0 0 1;village 007 005 099;guard 007 005;person monk 001 007 005 013;", 1);
        faults("posts 0000 0 1;", 6, 1);
        faults("posts 0 0005 1;", 8, 1);
        faults("posts 0 0 0001;", 10, 1);
        faults("posts 0/ 0 1;", 7, 1);
        faults("posts 0: 0 1;", 7, 1);
        faults("posts -1 0 1;", 6, 1);
        faults("posts +1 0 1;", 6, 1);
        faults("posts 1.0 0 1;", 7, 1);
        faults("posts 4294967296 0 1;", 6, 1);
        faults("posts 18446744073709551616 0 1;", 6, 1);
        faults("posts 0 0 1;village 1 1 " + "9".repeat(300), 24, 1);
    }

    private static void signs() {
        holds("Terms", "SIGNS");
        reads("posts 0 0 1;", 0);
        faults("posts 0 0 1:", 11, 1);
        faults("posts 0 0 1<", 11, 1);
        faults("posts 0 0 1,", 11, 1);
        faults("posts 0 0 1;;", 12, 1);
        faults("posts;0 0 1;", 5, 1);
        faults(";posts 0 0 1;", 0, 1);
        faults("posts 0 0;1;", 9, 1);
        for (int sign = 0; sign < 256; sign++) {
            boolean blank = sign == 32 || sign == 10;
            boolean token = sign == ';' || sign >= '0' && sign <= '9' || sign >= 'a' && sign <= 'z';
            if (!blank && !token) {
                faults("posts 0 0" + (char) sign + " 1;", 9, 1);
            }
        }
    }

    private static void blanks() {
        holds("Terms", "bytes 32 and 10 ahead of, between, behind these, as many as wanted");
        reads("  \n\n posts \n 0\n0 \n \n1 \n;\n\n", 0);
        reads("\nposts\n0\n0\n1\n;\nperson\nchild\n0\n0\n0\n0\n;\n", 1);
        reads(" ".repeat(150) + "posts 0 0" + "\n ".repeat(100) + "1;", 0);
        int[] none = {0, 1, 8, 9, 11, 12, 13, 31, 33, 42, 127, 128, 133, 138, 160, 255};
        for (int sign : none) {
            faults("posts" + (char) sign + "0 0 1;", 5, 1);
            faults((char) sign + "posts 0 0 1;", 0, 1);
            faults("posts 0 0 1;" + (char) sign, 12, 1);
        }
        faults("po sts 0 0 1;", 0, 1);
        faults("posts 0 0 1;guard 0 0;per\nson aunt 0 0 0 0;", 22, 1);
    }

    private static void noBlankNeeded() {
        holds("Terms", "(none is needed where one ends without)");
        reads("posts0 0 1;village0 0 1;guard0 0;person aunt0 0 0 0;", 1);
        reads("posts 0 0 1;village 0 0 1;village 0 0 1;guard 0 0;guard 0 0;", 0);
        faults("posts 00 1;", 10, 1);
        faults("posts 0 01;", 10, 1);
        faults("posts 001;", 9, 1);
        faults("posts 0 0 1;personaunt 0 0 0 0;", 12, 1);
        faults("posts 0 0 1;person auntx0 0 0 0;", 19, 1);
        faults("posts 0x 0 1;", 7, 1);
    }

    /** A NUMBER between what stands ahead of it and behind it: its least and greatest. */
    private static void takes(String ahead, String behind, int least, int most, int people) {
        for (int v = least; v <= most; v++) {
            reads(ahead + v + behind, people);
        }
        int place = ahead.length();
        faults(ahead + (most + 1) + behind, place, 2);
        faults(ahead + 999 + behind, place, 2);
        faults(ahead + 256 + behind, place, 2);
        faults(ahead + 1000 + behind, place, 1);
        faults(ahead + "000" + (most + 1) + behind, place, 1);
        faults(ahead + "-1" + behind, place, 1);
        faults(ahead + "x" + behind, place, 1);
        faults(ahead + behind, ahead.length() + behind.length() - 1, 1);
        if (least > 0) {
            faults(ahead + (least - 1) + behind, place, 2);
        }
    }

    private static void posts() {
        holds("Terms", "posts: 'posts' WEST EAST KEEPS ';' (0 to 5 both; 1 to 6).");
        takes("posts ", " 0 1;", 0, 5, 0);
        takes("posts 5 ", " 1;", 0, 5, 0);
        takes("posts 5 0 ", ";", 1, 6, 0);
        souths(on("posts 0 0 1;"), 0, 0, 0, 0, 0, 0, 0, 0);
        souths(on("posts 5 5 1;"), 5, 5, 5, 5, 5, 5, 5, 5);
        souths(on("posts 0 5 1;"), 1, 2, 2, 3, 3, 4, 4, 5);
        souths(on("posts 5 0 1;"), 5, 4, 4, 3, 3, 2, 2, 1);
    }

    private static void villages() {
        holds("Terms", "village: 'village' X Y WORTH ';' (0 to 7; 0 to 5; 1 to 99; 8 told at most");
        takes(FLAT + "village ", " 0 1;", 0, 7, 0);
        takes(FLAT + "village 7 ", " 1;", 0, 5, 0);
        takes(FLAT + "village 7 5 ", ";", 1, 99, 0);
        BorderBeds x = on(FLAT + "village 0 0 1;village 7 0 2;village 0 5 3;village 7 5 99;");
        is("cell(0, 2)", x.cell(0, 2), 1);
        is("cell(7, 2)", x.cell(7, 2), 2);
        is("cell(40, 2)", x.cell(40, 2), 3);
        is("cell(47, 2)", x.cell(47, 2), 99);
        reads(FLAT + "village 1 1 1;".repeat(8), 0);
        faults(FLAT + "village 1 1 1;".repeat(9), 12 + 8 * 14, 3);
        is("count(3)", on(FLAT + "village 1 1 1;".repeat(8)).count(3), 8);
    }

    private static void villagesOfOneCell() {
        holds("Terms", "of one CELL all count");
        BorderBeds x = on("posts 2 2 1;" + "village 3 1 99;".repeat(8));
        is("cell(11, 2)", x.cell(11, 2), 792);
        is("count(3): told", x.count(3), 8);
        is("land(0, 1)", x.land(0, 1), 792);
        is("land(1, 2)", x.land(1, 2), -792);
        is("cell(10, 2)", x.cell(10, 2), 0);
        is("cell(19, 2)", x.cell(19, 2), 0);
    }

    private static void guards() {
        holds("Terms", "guard: 'guard' X Y ';' (8 told at most).");
        takes(FLAT + "guard ", " 0;", 0, 7, 0);
        takes(FLAT + "guard 7 ", ";", 0, 5, 0);
        BorderBeds x = on(FLAT + "guard 0 0;guard 7 0;guard 0 5;guard 7 5;");
        for (int cell = 0; cell < 48; cell++) {
            boolean corner = cell == 0 || cell == 7 || cell == 40 || cell == 47;
            is("cell(" + cell + ", 1)", x.cell(cell, 1), corner ? 1 : 0);
        }
        is("count(5): eight told of one CELL", on(FLAT + "guard 1 1;".repeat(8)).count(5), 1);
        is("count(5): eight of eight", on(FLAT + "guard 0 0;guard 1 0;guard 2 0;guard 3 0;"
                + "guard 4 0;guard 5 0;guard 6 0;guard 7 0;").count(5), 8);
        faults(FLAT + "guard 1 1;".repeat(9), 12 + 8 * 10, 3);
    }

    private static void persons() {
        holds("Terms", "his home; 0 to 13");
        takes(FLAT + "person aunt ", " 0 0 0;", 0, 1, 1);
        takes(FLAT + "person aunt 1 ", " 0 0;", 0, 7, 1);
        takes(FLAT + "person aunt 1 7 ", " 0;", 0, 5, 1);
        takes(FLAT + "person aunt 1 7 5 ", ";", 0, 13, 1);
        BorderBeds x = on(FLAT + "person aunt 0 0 0 0;person aunt 1 7 5 13;person aunt 0 3 4 5;");
        is("person(0, 1)", x.person(0, 1), 0);
        is("person(0, 2)", x.person(0, 2), 0);
        is("person(1, 1)", x.person(1, 1), 47);
        is("person(1, 2)", x.person(1, 2), 13);
        is("person(2, 1)", x.person(2, 1), 35);
    }

    private static void sorts() {
        holds("Terms", "SORT: 'aunt' | 'envoy' | 'child' | 'monk' | 'twin'");
        String[] names = {"aunt", "envoy", "twin", "child", "monk"};
        for (int n = 0; n < 5; n++) {
            is("kind(0) of " + names[n],
                    on(FLAT + "person " + names[n] + " 0 0 0 0;").kind(0), n + 1);
            faults(FLAT + "person " + names[n] + "s 0 0 0 0;", 19, 1);
            faults(FLAT + "person " + names[n].substring(1) + " 0 0 0 0;", 19, 1);
            faults(FLAT + names[n] + " 0 0 0 0;", 12, 1);
        }
        faults(FLAT + "person person 0 0 0 0;", 19, 1);
        faults(FLAT + "person Aunt 0 0 0 0;", 19, 1);
        faults(FLAT + "person 1 0 0 0 0;", 19, 1);
        faults(FLAT + "person ;", 19, 1);
        faults(FLAT + "person 0 aunt 0 0 0;", 19, 1);
    }

    private static void lands() {
        holds("Terms", "0 the south, 1 the north");
        BorderBeds x = on("posts 3 3 6;village 0 0 1;village 0 5 50;person aunt 0 1 1 13;"
                + "person aunt 1 1 1 13;");
        lands(x, 24, 1, 16, 50);
        is("person(0, 0)", x.person(0, 0), 0);
        is("person(1, 0)", x.person(1, 0), 1);
        is("cross(0, 8): his own", x.cross(0, 8), STATE);
        is("cross(1, 40): his own", x.cross(1, 40), STATE);
        is("cross(0, 40)", x.cross(0, 40), 1);
        is("cross(1, 9)", x.cross(1, 9), 2);
    }

    private static void people() {
        holds("Terms", "PEOPLE 0 .. 4, 5 at most");
        String text = FLAT;
        for (int n = 0; n < 5; n++) {
            text += "person aunt 0 " + n + " 0 1;";
            BorderBeds x = on(text);
            is("count(1)", x.count(1), n + 1);
            is("person(-1, 1)", x.person(-1, 1), BAD);
            is("person(0, 1)", x.person(0, 1), 0);
            is("person(" + n + ", 1)", x.person(n, 1), n);
            is("person(" + (n + 1) + ", 1)", x.person(n + 1, 1), BAD);
        }
        faults(text + "person aunt 0 0 0 0;", 12 + 5 * 20, 3);
    }

    private static void noneOfAll() {
        holds("Terms", "ground: posts { village } { guard } { person }.");
        BorderBeds x = on("posts 3 3 1;");
        for (int what = 0; what <= 6; what++) {
            is("count(" + what + ")", x.count(what), 0);
        }
        lands(x, 24, 0, 16, 0);
        reads(FLAT + "village 0 0 1;person aunt 0 0 0 0;", 1);
        reads(FLAT + "guard 0 0;", 0);
        reads(FLAT + "village 0 0 1;guard 0 0;", 0);
        reads(FLAT + "person aunt 0 0 0 0;", 1);
        faults(FLAT + "guard 0 0;village 0 0 1;", 22, 1);
        faults(FLAT + "person aunt 0 0 0 0;village 0 0 1;", 32, 1);
        faults(FLAT + "person aunt 0 0 0 0;guard 0 0;", 32, 1);
        faults(FLAT + FLAT, 12, 1);
        faults("village 0 0 1;" + FLAT, 0, 1);
        faults("person aunt 0 0 0 0;", 0, 1);
    }

    private static void allFull() {
        holds("Promise 7", "The tape, empty then, is read: how many PEOPLE there are.");
        String text = "posts 2 2 6;" + "village 7 5 99;".repeat(8) + "guard 6 5;".repeat(8)
                + "person twin 0 1 1 13;".repeat(5);
        BorderBeds x = new BorderBeds();
        feed(x, text);
        is("count(6)", x.count(6), text.length());
        is("ground()", x.ground(), 5);
        is("count(6)", x.count(6), 0);
        is("count(1)", x.count(1), 5);
        is("count(3)", x.count(3), 8);
        is("count(5)", x.count(5), 1);
        is("ground(): the tape is empty", x.ground(), -1000100);
        is("count(1)", x.count(1), 5);
    }

    private static void groundInPlace() {
        holds("Terms", "A GROUND that is read stands in place of the one before (none at first):"
                + " the line has no CORNER; no ACT can be undone; IMAGES and ROWS stay.");
        BorderBeds x = on("posts 2 2 2;village 1 1 5;guard 3 3;person aunt 0 0 0 13;"
                + "person monk 1 0 5 13;");
        row(x, 0, 3, 3, 3, 3, 3, 3, 3, 3);
        x.image(0);
        crosses(x, 0, 40, 1);
        x.image(1);
        crosses(x, 0, 42, 2);
        is("ground()", read(x, "posts 3 3 1;person twin 1 7 5 1;"), 1);
        corners(x);
        is("count(4)", x.count(4), 0);
        is("undo()", x.undo(), STATE);
        is("count(3)", x.count(3), 0);
        is("count(5)", x.count(5), 0);
        is("cell(9, 2)", x.cell(9, 2), 0);
        is("cell(27, 1)", x.cell(27, 1), 0);
        is("person(1, 0)", x.person(1, 0), BAD);
        is("kind(0)", x.kind(0), 3);
        lands(x, 24, 0, 16, 0);
        is("went(0, 0, 2): ROWS stay", x.went(0, 0, 2), 1);
        is("restore(0): IMAGES stay", x.restore(0), 1);
        corners(x);
        lands(x, 16, 5, 24, 0);
        is("restore(1)", x.restore(1), 1);
        corners(x, 40);
    }

    private static void groundStays() {
        holds("Promise 24", "Number i of THE TRACE");
        BorderBeds x = on(FLAT + "person aunt 0 1 0 1;");
        x.ask(0, 1);
        x.as(0, 5);
        read(x, "?");
        is("ground()", read(x, FLAT), 0);
        is("trace(0): a new GROUND leaves it", x.trace(0), 21);
        is("trace(1)", x.trace(1), 20);
        is("trace(2)", x.trace(2), NONE);
        is("status(): and that", x.status(), 3);
        is("fault(): and that", x.fault(), 1);
    }

    private static void faultLeavesAll() {
        holds("Promise 7", "-1000100 less the place of a FAULT: all but the tape,"
                + " and what fault() tells, stays.");
        BorderBeds x = on("posts 2 2 2;village 1 1 5;guard 3 3;person aunt 0 0 0 13;");
        crosses(x, 0, 40, 1);
        int south = x.land(0, 0);
        int north = x.land(1, 0);
        String[] texts = {"", "?", "posts 9 0 1;", "posts 5 5 1;person aunt 1 7 7 0;",
            "posts 5 5 1;village 7 5 99;guard 7 5;person monk 1 7 5 1;person"};
        int[] places = {0, 0, 6, 28, 63};
        int[] numbers = {1, 1, 2, 2, 1};
        for (int n = 0; n < texts.length; n++) {
            is("ground() of '" + texts[n] + "'", read(x, texts[n]), -1000100 - places[n]);
            is("fault()", x.fault(), numbers[n]);
            is("count(6)", x.count(6), 0);
            corners(x, 40);
            lands(x, south, 5, north, 0);
            is("count(1)", x.count(1), 1);
            is("count(4)", x.count(4), 1);
            is("cell(27, 1)", x.cell(27, 1), 1);
            is("cell(47, 1)", x.cell(47, 1), 0);
            is("kind(0)", x.kind(0), 1);
        }
        is("undo()", x.undo(), 0);
    }
}
