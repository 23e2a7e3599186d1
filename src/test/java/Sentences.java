import java.util.ArrayList;
import java.util.List;
import java.util.Map;
import java.util.TreeMap;
import java.util.TreeSet;

/** What the tests of sentences share: the sentence that is held, checks, texts, objects. */
abstract class Sentences {
    static final int NONE = BorderBeds.NONE, BAD = BorderBeds.BAD;
    static final int STATE = BorderBeds.STATE, FULL = BorderBeds.FULL;
    static final int NULL = -1000011, PLACE = -1000012, KIND = -1000013;
    static final int SIZE = -1000014, STORE = -1000015;
    static final int MIN = Integer.MIN_VALUE, MAX = Integer.MAX_VALUE;

    /** A GROUND whose line is at height 0 everywhere: the south has nothing. */
    static final String FLAT = "posts 0 0 6;";

    private static final Map<String, String> document = new TreeMap<>();
    private static final TreeSet<String> heldSections = new TreeSet<>();
    private static String sentence = "";
    private static int sentences = 0;
    private static int checks = 0;
    private static int wrong = 0;

    /** Keeps the document by sections, so that a sentence can be looked for in its own. */
    static void readDocument(String text) {
        for (String part : text.split("(?m)^## ")) {
            String[] headAndBody = part.split("\n", 2);
            String body = headAndBody.length < 2 ? "" : headAndBody[1].replaceAll("\\s+", " ");
            document.put(headAndBody[0].replaceAll(":.*", "").trim(), body);
        }
    }

    /** All checks from here on are of this sentence of this section of the document. */
    static void holds(String section, String words) {
        sentences++;
        heldSections.add(section);
        sentence = section + ", \"" + words + "\"";
        if (!document.getOrDefault(section, "").contains(words)) {
            fails("the document does not say this there");
        }
    }

    static void is(String call, long got, long due) {
        checks++;
        if (got != due) {
            fails(call + " answered " + got + ", due is " + due);
        }
    }

    private static void fails(String what) {
        wrong++;
        System.out.println(sentence + ": " + what);
    }

    /** Whether all was as due; every section must have had a sentence. */
    static boolean end() {
        List<String> missing = new ArrayList<>(document.keySet());
        missing.removeIf(s -> !s.startsWith("Promise ") && !s.equals("Terms"));
        missing.removeAll(heldSections);
        System.out.println(sentences + " sentences, " + checks + " checks of them, " + wrong
                + " wrong" + (missing.isEmpty() ? "" : ", no sentence of " + missing));
        return wrong == 0 && missing.isEmpty() && document.size() > 26;
    }

    static void feed(BorderBeds x, String text) {
        for (int at = 0; at < text.length(); at += 8) {
            int n = Math.min(8, text.length() - at);
            long w = 0;
            for (int k = 0; k < n; k++) {
                w = w << 8 | text.charAt(at + k) & 255;
            }
            x.feed(w, n);
        }
    }

    static int read(BorderBeds x, String text) {
        feed(x, text);
        return x.ground();
    }

    static BorderBeds on(String text) {
        BorderBeds x = new BorderBeds();
        is("whether '" + text + "' is read", read(x, text) >= 0 ? 1 : 0, 1);
        return x;
    }

    static void reads(String text, int people) {
        is("ground() of '" + text + "'", read(new BorderBeds(), text), people);
    }

    static void faults(String text, int place, int number) {
        BorderBeds x = new BorderBeds();
        is("ground() of '" + text + "'", read(x, text), -1000100 - place);
        is("fault() of '" + text + "'", x.fault(), number);
    }

    static void put(BorderBeds x, int row, int from, int... items) {
        for (int i = 0; i < items.length; i++) {
            is("set(" + row + ", " + (from + i) + ", " + items[i] + ")",
                    x.set(row, from + i, items[i]), items[i]);
        }
    }

    /** Begins a ROW of ints and sets its ITEMS. */
    static void row(BorderBeds x, int row, int... items) {
        is("row(" + row + ", 2, " + items.length + ")", x.row(row, 2, items.length), items.length);
        put(x, row, 0, items);
    }

    /** How many CELLS of each column the south has. */
    static void souths(BorderBeds x, int... due) {
        for (int column = 0; column < 8; column++) {
            int south = 0;
            for (int y = 0; y < 6; y++) {
                south += x.cell(8 * y + column, 0) == 0 ? 1 : 0;
            }
            is("the south's CELLS in column " + column, south, due[column]);
        }
    }

    /** Whose the CELLS of a column are, from the south on. */
    static void owners(BorderBeds x, int column, int... due) {
        for (int y = 0; y < 6; y++) {
            is("cell(" + (8 * y + column) + ", 0)", x.cell(8 * y + column, 0), due[y]);
        }
    }

    static void crosses(BorderBeds x, int person, int cell, int due) {
        is("cross(" + person + ", " + cell + ")", x.cross(person, cell), due);
    }

    /** Just these CELLS are CORNERS; asked of all 48. */
    static void corners(BorderBeds x, int... due) {
        StringBuilder got = new StringBuilder();
        for (int cell = 0; cell < 48; cell++) {
            if (x.cell(cell, 3) == 1) {
                got.append(' ').append(cell);
            }
        }
        StringBuilder wanted = new StringBuilder();
        for (int cell : due) {
            wanted.append(' ').append(cell);
        }
        is("whether the CORNERS are" + wanted + " (they are" + got + ")",
                got.toString().contentEquals(wanted) ? 1 : 0, 1);
        is("count(2)", x.count(2), due.length);
    }

    static void lands(BorderBeds x, int southHas, int southWorth, int northHas, int northWorth) {
        is("land(0, 0)", x.land(0, 0), southHas);
        is("land(0, 1)", x.land(0, 1), southWorth);
        is("land(0, 2)", x.land(0, 2), southWorth - northWorth);
        is("land(1, 0)", x.land(1, 0), northHas);
        is("land(1, 1)", x.land(1, 1), northWorth);
        is("land(1, 2)", x.land(1, 2), northWorth - southWorth);
    }
}
