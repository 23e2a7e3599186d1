import java.util.ArrayDeque;
import java.util.ArrayList;
import java.util.Arrays;
import java.util.Deque;
import java.util.List;
import java.util.TreeSet;
import java.util.regex.Matcher;
import java.util.regex.Pattern;

/**
 * The document once more, as plainly as the Java library lets it be told and in no way as the
 * program does it: texts by patterns, CELLS one by one, lines as lists, BODIES looked up in tables.
 */
final class Model {
    static final int NONE = -1000000, BAD = -1000001, STATE = -1000002, FULL = -1000003;

    record Corner(int x, int y, boolean child) { }

    record Village(int x, int y, int worth) { }

    record Human(int number, String sort, int land, int x, int y, int miles) {
        int kind() {
            return List.of("person", "aunt", "envoy", "twin", "child", "monk").indexOf(sort);
        }
    }

    record Land(int west, int east, int keeps, List<Village> villages, int guardsTold,
            TreeSet<Integer> guards, List<Human> people) { }

    record Kept(Land land, List<Corner> corners) { }

    private static final class Fault extends RuntimeException {
        private static final long serialVersionUID = 1L;
        final int place;
        final int number;

        Fault(int place, int number) {
            this.place = place;
            this.number = number;
        }
    }

    private static final int[] PARENT = {-1, 0, 1, 1, 0, 4};
    private static final int[] SIZE_BODY = {10, 11, 12, 0, 13, 14};
    private static final int[] MARK_BODY = {20, 21, 24, 22, 23, 0};

    private final int[][] rows = new int[8][];
    private final int[] lanes = new int[8];
    private final StringBuilder tape = new StringBuilder();
    private Land land = null;
    private List<Corner> corners = new ArrayList<>();
    private final Deque<List<Corner>> acts = new ArrayDeque<>();
    private final Kept[] images = new Kept[2];
    private final List<Integer> trace = new ArrayList<>();
    private int fault = 0;
    private int status = 0;

    private int found(int number) {
        status = number;
        return -1000010 - number;
    }

    private int fine(int answer) {
        status = 0;
        return answer;
    }

    private static boolean in(int n, int least, int most) {
        return n >= least && n <= most;
    }

    int row(int row, int lane, int n) {
        if (!in(row, 0, 7) || !in(lane, 0, 2) || n > 40) {
            return BAD;
        }
        if (n < 0) {
            return found(4);
        }
        rows[row] = new int[n];
        lanes[row] = lane;
        return fine(n);
    }

    int set(int row, int i, int v) {
        if (!in(row, 0, 7)) {
            return BAD;
        }
        if (rows[row] == null) {
            return found(1);
        }
        if (!in(i, 0, rows[row].length - 1)) {
            return found(2);
        }
        int spare = new int[] {24, 16, 0}[lanes[row]];
        rows[row][i] = v << spare >> spare;
        return fine(rows[row][i]);
    }

    int copy(int a, int i, int b, int j, int n) {
        if (!in(a, 0, 7) || !in(b, 0, 7)) {
            return BAD;
        }
        if (rows[a] == null || rows[b] == null) {
            return found(1);
        }
        if (lanes[a] != lanes[b]) {
            return found(5);
        }
        if (i < 0 || j < 0 || n < 0 || (long) i + n > rows[a].length
                || (long) j + n > rows[b].length) {
            return found(2);
        }
        int[] items = Arrays.copyOfRange(rows[a], i, i + n);
        for (int k = 0; k < n; k++) {
            rows[b][j + k] = items[k];
        }
        return fine(n);
    }

    int drop(int row) {
        if (!in(row, 0, 7)) {
            return BAD;
        }
        if (rows[row] == null) {
            return found(1);
        }
        int n = rows[row].length;
        rows[row] = null;
        return fine(n);
    }

    int feed(long w, int n) {
        if (!in(n, 1, 8)) {
            return BAD;
        }
        if (tape.length() + n > 400) {
            return FULL;
        }
        for (int k = n; k > 0; k--) {
            tape.append((char) (w >>> 8 * (k - 1) & 0xff));
        }
        return tape.length();
    }

    private record Token(String text, int place) { }

    private static List<Token> tokens(String text) {
        List<Token> all = new ArrayList<>();
        Matcher m = Pattern.compile("[a-z]+|[0-9]+|[^ \\n]", Pattern.DOTALL).matcher(text);
        while (m.find()) {
            all.add(new Token(m.group(), m.start()));
        }
        all.add(new Token("", text.length()));
        return all;
    }

    private List<Token> left = null;

    private Token look() {
        return left.get(0);
    }

    private void word(String wordsOrSign) {
        if (look().text().isEmpty() || !look().text().matches(wordsOrSign)) {
            throw new Fault(look().place(), 1);
        }
        left.remove(0);
    }

    private int number(int least, int most) {
        Token t = look();
        if (!t.text().matches("[0-9]{1,3}")) {
            throw new Fault(t.place(), 1);
        }
        int n = Integer.parseInt(t.text());
        if (!in(n, least, most)) {
            throw new Fault(t.place(), 2);
        }
        left.remove(0);
        return n;
    }

    private boolean another(String word, int told, int room) {
        if (!look().text().equals(word)) {
            return false;
        }
        if (told == room) {
            throw new Fault(look().place(), 3);
        }
        left.remove(0);
        return true;
    }

    private Land readLand() {
        word("posts");
        int west = number(0, 5);
        int east = number(0, 5);
        int keeps = number(1, 6);
        word(";");
        List<Village> villages = new ArrayList<>();
        while (another("village", villages.size(), 8)) {
            villages.add(new Village(number(0, 7), number(0, 5), number(1, 99)));
            word(";");
        }
        int guardsTold = 0;
        TreeSet<Integer> guards = new TreeSet<>();
        while (another("guard", guardsTold, 8)) {
            int x = number(0, 7);
            guards.add(x + 8 * number(0, 5));
            word(";");
            guardsTold++;
        }
        List<Human> people = new ArrayList<>();
        while (another("person", people.size(), 5)) {
            String sort = look().text();
            word("aunt|envoy|child|monk|twin");
            people.add(new Human(people.size(), sort, number(0, 1), number(0, 7), number(0, 5),
                    number(0, 13)));
            word(";");
        }
        if (!look().text().isEmpty()) {
            throw new Fault(look().place(), 1);
        }
        return new Land(west, east, keeps, villages, guardsTold, guards, people);
    }

    int ground() {
        left = new ArrayList<>(tokens(tape.toString()));
        tape.setLength(0);
        try {
            land = readLand();
        } catch (Fault f) {
            fault = f.number;
            return -1000100 - f.place;
        }
        corners = new ArrayList<>();
        acts.clear();
        return land.people().size();
    }

    int fault() {
        return fault;
    }

    private Human human(int n) {
        return land == null || !in(n, 0, land.people().size() - 1) ? null : land.people().get(n);
    }

    /** Compares y with the line's height in column x, by a fraction, without dividing. */
    private int owner(List<Corner> by, int x, int y) {
        int leftX = -1, leftY = land.west(), rightX = 8, rightY = land.east();
        for (Corner c : by) {
            if (c.x() <= x && c.x() > leftX) {
                leftX = c.x();
                leftY = c.y();
            }
            if (c.x() >= x && c.x() < rightX) {
                rightX = c.x();
                rightY = c.y();
            }
        }
        int sign = leftX == rightX ? Integer.compare(y, leftY)
                : Integer.compare((y - leftY) * (rightX - leftX), (rightY - leftY) * (x - leftX));
        return sign < 0 ? 0 : sign > 0 ? 1 : -1;
    }

    private int has(List<Corner> by, int whose) {
        int n = 0;
        for (int cell = 0; cell < 48; cell++) {
            n += owner(by, cell % 8, cell / 8) == whose ? 1 : 0;
        }
        return n;
    }

    private int worth(List<Corner> by, int whose) {
        int n = 0;
        for (Village v : land.villages()) {
            n += owner(by, v.x(), v.y()) == whose ? v.worth() : 0;
        }
        return n;
    }

    private int lead(List<Corner> by, int whose) {
        return worth(by, whose) - worth(by, 1 - whose);
    }

    private List<Integer> open(Human h, List<Corner> by) {
        List<Integer> cells = new ArrayList<>();
        int reach = h.sort().equals("envoy") ? h.miles() + h.miles() : h.miles();
        for (int y = 0; y < 6; y++) {
            for (int x = 0; x < 8; x++) {
                if (Math.abs(x - h.x()) + Math.abs(y - h.y()) <= reach
                        && !land.guards().contains(8 * y + x) && owner(by, x, y) != h.land()) {
                    cells.add(8 * y + x);
                }
            }
        }
        return cells;
    }

    private List<Corner> crossed(List<Corner> by, Human h, int cell) {
        List<Corner> next = new ArrayList<>(by);
        if (h.sort().equals("monk")) {
            return next;
        }
        int x = cell % 8;
        int y = cell / 8;
        next.removeIf(c -> c.x() == x);
        next.add(new Corner(x, y, h.sort().equals("child")));
        if (h.sort().equals("twin")) {
            next.removeIf(c -> c.x() == 7 - x);
            next.add(new Corner(7 - x, y, false));
        }
        while (next.size() > land.keeps()) {
            Corner goes = next.stream().filter(Corner::child).findFirst().orElse(next.get(0));
            next.remove(goes);
        }
        return next;
    }

    int cross(int person, int cell) {
        Human h = human(person);
        if (h == null || !in(cell, 0, 47)) {
            return BAD;
        }
        if (!open(h, corners).contains(cell)) {
            return STATE;
        }
        acts.addLast(corners);
        if (acts.size() > 24) {
            acts.removeFirst();
        }
        corners = crossed(corners, h, cell);
        return corners.size();
    }

    int undo() {
        if (acts.isEmpty()) {
            return STATE;
        }
        corners = acts.removeLast();
        return acts.size();
    }

    int person(int person, int what) {
        Human h = human(person);
        if (h == null || !in(what, 0, 3)) {
            return BAD;
        }
        return new int[] {h.land(), 8 * h.y() + h.x(), h.miles(), open(h, corners).size()}[what];
    }

    int cell(int cell, int what) {
        if (land == null) {
            return STATE;
        }
        if (!in(cell, 0, 47) || !in(what, 0, 3)) {
            return BAD;
        }
        int x = cell % 8;
        int y = cell / 8;
        if (what == 0) {
            return owner(corners, x, y);
        }
        if (what == 1) {
            return land.guards().contains(cell) ? 1 : 0;
        }
        if (what == 2) {
            return land.villages().stream().filter(v -> v.x() == x && v.y() == y)
                    .mapToInt(Village::worth).sum();
        }
        return corners.stream().anyMatch(c -> c.x() == x && c.y() == y) ? 1 : 0;
    }

    int land(int whose, int what) {
        if (land == null) {
            return STATE;
        }
        if (!in(whose, 0, 1) || !in(what, 0, 2)) {
            return BAD;
        }
        return what == 0 ? has(corners, whose) : what == 1 ? worth(corners, whose)
                : lead(corners, whose);
    }

    /** BEST by trying all and sorting; null where there is none. */
    private Integer bestCell(Human h, List<Corner> by) {
        return open(h, by).stream().min((a, b) -> {
            List<Corner> ofA = crossed(by, h, a);
            List<Corner> ofB = crossed(by, h, b);
            int more = lead(ofB, h.land()) - lead(ofA, h.land());
            int larger = has(ofB, h.land()) - has(ofA, h.land());
            return more != 0 ? more : larger != 0 ? larger : a - b;
        }).orElse(null);
    }

    private int bestAnswer(Human h, List<Corner> by, int what) {
        Integer cell = bestCell(h, by);
        if (cell == null) {
            return NONE;
        }
        return what == 0 ? cell : lead(crossed(by, h, cell), h.land());
    }

    int best(int person, int what) {
        Human h = human(person);
        return h == null || !in(what, 0, 1) ? BAD : bestAnswer(h, corners, what);
    }

    int answer(int a, int b, int what) {
        Human one = human(a);
        Human other = human(b);
        if (one == null || other == null || a == b || !in(what, 0, 1)) {
            return BAD;
        }
        Integer cell = bestCell(one, corners);
        return bestAnswer(other, cell == null ? corners : crossed(corners, one, cell), what);
    }

    int game(int a, int b, int what) {
        Human one = human(a);
        Human other = human(b);
        if (one == null || other == null || a == b || !in(what, 0, 1)) {
            return BAD;
        }
        List<Integer> openings = open(one, corners);
        openings.add(0, -1);
        int best = Integer.MIN_VALUE;
        int most = Integer.MIN_VALUE;
        for (int cell : openings) {
            List<Corner> behind = cell < 0 ? corners : crossed(corners, one, cell);
            Integer reply = bestCell(other, behind);
            List<Corner> last = reply == null ? behind : crossed(behind, other, reply);
            if (lead(last, other.land()) <= lead(behind, other.land())) {
                last = behind;
            }
            if (lead(last, one.land()) > most) {
                most = lead(last, one.land());
                best = cell;
            }
        }
        return what == 0 ? best : most;
    }

    int held(int whose, int worth, int i) {
        if (land == null) {
            return STATE;
        }
        if (!in(whose, 0, 1) || !in(worth, 0, 999) || i < -1) {
            return BAD;
        }
        TreeSet<Integer> cells = new TreeSet<>();
        for (Human h : land.people()) {
            for (int cell : open(h, corners)) {
                if (h.land() != whose && worth(crossed(corners, h, cell), whose) < worth) {
                    cells.add(cell);
                }
            }
        }
        return i == -1 ? cells.size() : cells.stream().skip(i).findFirst().orElse(NONE);
    }

    private boolean lies(List<Corner> by, int row, int i) {
        for (int x = 0; x < 8; x++) {
            int south = 0;
            for (int y = 0; y < 6; y++) {
                south += owner(by, x, y) == 0 ? 1 : 0;
            }
            if (south != rows[row][i + x]) {
                return false;
            }
        }
        return true;
    }

    /** How many CELLS the south would have of each column behind a CROSSING, or has now. */
    int[] souths(int person, int cell) {
        Human h = human(person);
        List<Corner> by = open(h, corners).contains(cell) ? crossed(corners, h, cell) : corners;
        int[] souths = new int[8];
        for (int n = 0; n < 48; n++) {
            souths[n % 8] += owner(by, n % 8, n / 8) == 0 ? 1 : 0;
        }
        return souths;
    }

    int went(int row, int i, int what) {
        if (land == null) {
            return STATE;
        }
        if (!in(row, 0, 7) || !in(what, 0, 2)) {
            return BAD;
        }
        if (rows[row] == null) {
            return found(1);
        }
        if (i < 0 || (long) i + 8 > rows[row].length) {
            return found(2);
        }
        for (int k = i; k < i + 8; k++) {
            if (!in(rows[row][k], 0, 6)) {
                return BAD;
            }
        }
        List<Integer> ways = new ArrayList<>();
        for (Human h : land.people()) {
            for (int cell : open(h, corners)) {
                if (lies(crossed(corners, h, cell), row, i)) {
                    ways.add(48 * h.number() + cell);
                }
            }
        }
        int first = ways.isEmpty() ? NONE : ways.get(0);
        return fine(what == 0 ? ways.size() : what == 1 ? first : lies(corners, row, i) ? 1 : 0);
    }

    int image(int k) {
        if (!in(k, 0, 1)) {
            return BAD;
        }
        if (land == null) {
            return STATE;
        }
        images[k] = new Kept(land, corners);
        return 1;
    }

    int restore(int k) {
        if (!in(k, 0, 1)) {
            return BAD;
        }
        if (images[k] == null) {
            return STATE;
        }
        land = images[k].land();
        corners = images[k].corners();
        acts.clear();
        return 1;
    }

    int kind(int person) {
        Human h = human(person);
        return h == null ? BAD : h.kind();
    }

    int as(int person, int kind) {
        Human h = human(person);
        if (h == null || !in(kind, 0, 5)) {
            return BAD;
        }
        for (int k = h.kind(); k >= 0; k = PARENT[k]) {
            if (k == kind) {
                return fine(person);
            }
        }
        return found(3);
    }

    private int asked(Human h, int what) {
        int[] told = what == 0 ? SIZE_BODY : MARK_BODY;
        int kind = h.kind();
        while (told[kind] == 0) {
            kind = PARENT[kind];
        }
        return body(h, told[kind]);
    }

    private int body(Human h, int number) {
        trace.add(number);
        switch (number) {
            case 10: return h.miles();
            case 11: return body(h, 10) + asked(h, 1);
            case 12: return -body(h, 11);
            case 13: return body(h, 10) - 100;
            case 14: return 2 * body(h, 13);
            case 20: return h.number();
            case 21: return body(h, 20) + 8 * h.y() + h.x();
            case 22: return body(h, 21) - 1000;
            case 23: return body(h, 20) - asked(h, 0);
            default: return 2 * body(h, 21);
        }
    }

    int ask(int person, int what) {
        Human h = human(person);
        if (h == null || !in(what, 0, 1)) {
            return BAD;
        }
        trace.clear();
        return asked(h, what);
    }

    int trace(int i) {
        return in(i, 0, Math.min(trace.size(), 16) - 1) ? trace.get(i) : NONE;
    }

    int count(int what) {
        switch (what) {
            case 0: return (int) Arrays.stream(rows).filter(r -> r != null).count();
            case 1: return land == null ? 0 : land.people().size();
            case 2: return corners.size();
            case 3: return land == null ? 0 : land.villages().size();
            case 4: return acts.size();
            case 5: return land == null ? 0 : land.guards().size();
            case 6: return tape.length();
            default: return BAD;
        }
    }

    int status() {
        return status;
    }
}
