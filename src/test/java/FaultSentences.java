/** The sentences of FAULTS: "Terms" 1, and promises 7 and 8. */
final class FaultSentences extends Sentences {
    /** A text with each kind of TOKEN in each place, and what may not stand in any of them. */
    private static final String[] TOKENS = {"posts", "2", "4", "3", ";", "village", "3", "3", "20",
        ";", "guard", "1", "1", ";", "person", "aunt", "0", "2", "1", "4", ";"};

    static void all() {
        cannotStand();
        isNone();
        fourFigures();
        theEnd();
        nothingTold();
        notAsTold();
        noRoom();
        leastOfOne();
        firstOfAll();
        latest();
        zeroBeforeOne();
    }

    private static String until(int n) {
        StringBuilder text = new StringBuilder();
        for (int i = 0; i < n; i++) {
            text.append(TOKENS[i]).append(' ');
        }
        return text.toString();
    }

    private static String behind(int n) {
        StringBuilder text = new StringBuilder();
        for (int i = n + 1; i < TOKENS.length; i++) {
            text.append(' ').append(TOKENS[i]);
        }
        return text.toString();
    }

    private static boolean isNumber(String token) {
        return token.charAt(0) >= '0' && token.charAt(0) <= '9';
    }

    private static void cannotStand() {
        holds("Terms", "1 it cannot stand there");
        reads(until(TOKENS.length), 1);
        String[] others = {"posts", "cow", "aunts", ";", "1"};
        for (int n = 0; n < TOKENS.length; n++) {
            String ahead = until(n);
            for (String other : others) {
                boolean stands = other.equals(TOKENS[n])
                        || isNumber(other) && isNumber(TOKENS[n]);
                if (!stands) {
                    faults(ahead + other + behind(n), ahead.length(), 1);
                }
            }
        }
        faults(until(TOKENS.length) + ";", until(TOKENS.length).length(), 1);
        faults(until(TOKENS.length) + "0", until(TOKENS.length).length(), 1);
        faults("posts 2 4 3 3;", 12, 1);
        faults("posts 2 4;", 9, 1);
    }

    private static void isNone() {
        holds("Terms", "or is none");
        for (int n = 0; n <= TOKENS.length; n++) {
            String ahead = until(n);
            faults(ahead + "?" + behind(n), ahead.length(), 1);
            faults(ahead + (char) 200 + behind(n), ahead.length(), 1);
        }
    }

    private static void fourFigures() {
        holds("Terms", "(a run of four figures or more, at its first;");
        for (int n = 0; n <= TOKENS.length; n++) {
            String ahead = until(n);
            faults(ahead + "0001" + behind(n), ahead.length(), 1);
            faults(ahead + "12345" + behind(n), ahead.length(), 1);
        }
        faults("posts 0 0 0001", 10, 1);
        faults("posts 0 0 1;0000", 12, 1);
        reads("posts 0 0 001;", 0);
    }

    private static void theEnd() {
        holds("Terms", "the end: how many bytes there are)");
        for (int n = 0; n < TOKENS.length; n++) {
            String text = until(n);
            boolean whole = n > 0 && TOKENS[n - 1].equals(";");
            if (whole) {
                reads(text, 0);
            } else {
                faults(text, text.length(), 1);
                faults(text.trim(), text.trim().length(), 1);
                faults(text + "  \n ", text.length() + 4, 1);
            }
        }
    }

    private static void nothingTold() {
        holds("Terms", "the end: how many bytes there are)");
        faults("", 0, 1);
        faults(" ", 1, 1);
        faults("\n\n\n", 3, 1);
        BorderBeds x = on(FLAT);
        is("ground(): an empty tape", x.ground(), -1000100);
        is("fault()", x.fault(), 1);
    }

    private static void notAsTold() {
        holds("Terms", "2 a NUMBER that is not as told");
        int[] greatest = {0, 5, 5, 6, 0, 0, 7, 5, 99, 0, 0, 7, 5, 0, 0, 0, 1, 7, 5, 13, 0};
        for (int n = 0; n < TOKENS.length; n++) {
            if (isNumber(TOKENS[n])) {
                String ahead = until(n);
                reads(ahead + greatest[n] + behind(n), 1);
                faults(ahead + (greatest[n] + 1) + behind(n), ahead.length(), 2);
                faults(ahead + (greatest[n] + 1), ahead.length(), 2);
                faults(ahead + 999 + behind(n), ahead.length(), 2);
            }
        }
        faults(until(3) + "0" + behind(3), until(3).length(), 2);
        faults(until(8) + "0" + behind(8), until(8).length(), 2);
    }

    private static void noRoom() {
        holds("Terms", "3 a village, a guard, a person more than there is room for (its word)");
        String villages = FLAT + "village 7 5 99;".repeat(8);
        String guards = villages + "guard 7 5;".repeat(8);
        String people = guards + "person aunt 0 0 0 0;".repeat(5);
        reads(villages, 0);
        reads(guards, 0);
        reads(people, 5);
        faults(villages + "village 7 5 99;", villages.length(), 3);
        faults(villages + " village", villages.length() + 1, 3);
        faults(guards + "guard 7 5;", guards.length(), 3);
        faults(guards + "\n\nguard", guards.length() + 2, 3);
        faults(people + "person aunt 0 0 0 0;", people.length(), 3);
        faults(people + " person", people.length() + 1, 3);
        faults(villages + "villages", villages.length(), 1);
        faults(guards + "guar", guards.length(), 1);
        faults(people + "personaunt", people.length(), 1);
    }

    private static void leastOfOne() {
        holds("Terms", "of one TOKEN the least");
        String all = FLAT + "village 7 5 99;".repeat(8) + "guard 7 5;".repeat(8);
        faults(all + "village 7 5 99;", all.length(), 1);
        String people = all + "person aunt 0 0 0 0;".repeat(5);
        faults(people + "guard 7 5;", people.length(), 1);
        faults(people + "village 7 5 9;", people.length(), 1);
        faults("posts 9999 0 1;", 6, 1);
        faults("9 0 0 1;", 0, 1);
        faults("posts 0 0 1 999;", 12, 1);
    }

    private static void firstOfAll() {
        holds("Terms", "FAULTS, the first TOKEN that has one (its first byte)");
        faults("posts 9 ? 0", 6, 2);
        faults("posts 0 9 9;", 8, 2);
        faults("posts 0 9999 9;", 8, 1);
        faults("posts 0 0 7", 10, 2);
        faults("cow 9 9 9;", 0, 1);
        faults(FLAT + "village 8 6 100;", 20, 2);
        faults(FLAT + "village 0 0 1;".repeat(8) + "village 8 ?", 12 + 8 * 14, 3);
        faults(FLAT + "person aunt 2 8 6 14", 24, 2);
        faults(FLAT + "person cow 2 8 6 14", 19, 1);
        faults("posts 0 0 1\n\n  village", 15, 1);
        faults("posts   \n  99 0 1;", 11, 2);
    }

    private static void latest() {
        holds("Promise 8", "The number of the latest FAULT");
        BorderBeds x = new BorderBeds();
        String[] texts = {"posts 0 0 7;", "", FLAT + "guard 0 0;".repeat(9), "posts 6 0 1;"};
        int[] numbers = {2, 1, 3, 2};
        for (int n = 0; n < texts.length; n++) {
            is("whether '" + texts[n] + "' has a FAULT", read(x, texts[n]) <= -1000100 ? 1 : 0, 1);
            is("fault()", x.fault(), numbers[n]);
            is("fault() again", x.fault(), numbers[n]);
            is("ground() of '" + FLAT + "'", read(x, FLAT), 0);
            is("fault(): behind a GROUND without", x.fault(), numbers[n]);
        }
    }

    private static void zeroBeforeOne() {
        holds("Promise 8", "0 before one.");
        BorderBeds x = new BorderBeds();
        is("fault()", x.fault(), 0);
        read(x, FLAT);
        is("fault()", x.fault(), 0);
        x.cell(-1, 0);
        x.set(0, 0, 0);
        x.undo();
        is("fault(): refusals are none", x.fault(), 0);
    }
}
