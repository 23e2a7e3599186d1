/**
 * A ground of cells that a line divides into two lands, and the people who move that line by
 * sleeping beyond it. Every answer is a number; refusals and findings are numbers, too.
 */
public final class BorderBeds {
    public static final int NONE = -1000000, BAD = -1000001, STATE = -1000002, FULL = -1000003;

    private static final int FINDINGS = -1000010;
    private static final int NULL = 1, PLACE = 2, NO_SUCH_KIND = 3, SIZE = 4, STORE = 5;
    private static final int FAULTS = -1000100;

    private static final int ROWS = 8, ITEMS = 40, LANES = 3, MISSING = -1;
    private static final int WIDTH = 8, HEIGHT = 6, CELLS = 48;
    private static final int SOUTH = 0, NORTH = 1, NOBODY = -1;
    private static final int VILLAGES = 8, GUARDS = 8, PEOPLE = 5;
    private static final int ACTS = 24, IMAGES = 2, KINDS = 6;

    private final Row[] rows = new Row[ROWS];
    private final Tape tape = new Tape();
    private final Trace trace = new Trace();
    private final Line line = new Line();
    private final Line[] acts = new Line[ACTS];
    private final Line[] imageLines = new Line[IMAGES];
    private final Ground[] imageGrounds = new Ground[IMAGES];
    private Ground current = null;
    private int oldestAct = 0;
    private int actsKept = 0;
    private int latestFault = 0;
    private int latestFinding = 0;

    public BorderBeds() {
        for (int i = 0; i < ROWS; i++) {
            rows[i] = new Row();
        }
        for (int i = 0; i < ACTS; i++) {
            acts[i] = new Line();
        }
        for (int i = 0; i < IMAGES; i++) {
            imageLines[i] = new Line();
        }
    }

    // ---- rows

    public int row(int row, int lane, int n) {
        Row told = rowAt(row);
        if (told == null || lane < 0 || lane >= LANES || n > ITEMS) {
            return BAD;
        }
        if (n < 0) {
            return finding(SIZE);
        }
        told.begin(lane, n);
        return withoutFinding(n);
    }

    public int set(int row, int i, int v) {
        Row told = rowAt(row);
        if (told == null) {
            return BAD;
        }
        if (told.isMissing()) {
            return finding(NULL);
        }
        if (!told.hasPlaces(i, 1)) {
            return finding(PLACE);
        }
        return withoutFinding(told.keep(i, v));
    }

    public int copy(int a, int i, int b, int j, int n) {
        Row from = rowAt(a);
        Row to = rowAt(b);
        if (from == null || to == null) {
            return BAD;
        }
        if (from.isMissing() || to.isMissing()) {
            return finding(NULL);
        }
        if (from.lane != to.lane) {
            return finding(STORE);
        }
        if (!from.hasPlaces(i, n) || !to.hasPlaces(j, n)) {
            return finding(PLACE);
        }
        System.arraycopy(from.items, i, to.items, j, n);
        return withoutFinding(n);
    }

    public int drop(int row) {
        Row told = rowAt(row);
        if (told == null) {
            return BAD;
        }
        if (told.isMissing()) {
            return finding(NULL);
        }
        told.lane = MISSING;
        return withoutFinding(told.size);
    }

    /** The ROW, missing or not, or null where no ROW has this number. */
    private Row rowAt(int row) {
        return row < 0 || row >= ROWS ? null : rows[row];
    }

    private int finding(int number) {
        latestFinding = number;
        return FINDINGS - number;
    }

    private int withoutFinding(int answer) {
        latestFinding = 0;
        return answer;
    }

    // ---- grounds, nights

    public int feed(long w, int n) {
        if (n < 1 || n > 8) {
            return BAD;
        }
        return tape.take(w, n) ? tape.size : FULL;
    }

    public int ground() {
        Ground next = tape.readGround();
        if (next == null) {
            latestFault = tape.fault;
            return FAULTS - tape.place;
        }
        current = next;
        line.begin(next);
        actsKept = 0;
        return next.people;
    }

    public int fault() {
        return latestFault;
    }

    public int cross(int person, int cell) {
        Ground on = current;
        Person one = personAt(person);
        if (on == null || one == null || !isCell(cell)) {
            return BAD;
        }
        if (!on.mayCross(one, cell, line)) {
            return STATE;
        }
        keepAct();
        line.move(one, cell, on);
        return line.size;
    }

    public int undo() {
        if (actsKept <= 0) {
            return STATE;
        }
        actsKept--;
        line.become(acts[(oldestAct + actsKept) % ACTS]);
        return actsKept;
    }

    public int person(int person, int what) {
        Ground on = current;
        Person one = personAt(person);
        if (on == null || one == null) {
            return BAD;
        }
        switch (what) {
            case 0: return one.land;
            case 1: return one.home;
            case 2: return one.miles;
            case 3: return on.waysOf(one, line);
            default: return BAD;
        }
    }

    public int cell(int cell, int what) {
        Ground on = current;
        if (on == null) {
            return STATE;
        }
        if (!isCell(cell)) {
            return BAD;
        }
        switch (what) {
            case 0: return line.ownerOf(cell);
            case 1: return on.guarded[cell] ? 1 : 0;
            case 2: return on.worths[cell];
            case 3: return line.isCorner(cell) ? 1 : 0;
            default: return BAD;
        }
    }

    public int land(int land, int what) {
        Ground on = current;
        if (on == null) {
            return STATE;
        }
        if (!isLand(land)) {
            return BAD;
        }
        switch (what) {
            case 0: return on.cellsOf(land, line);
            case 1: return on.worthOf(land, line);
            case 2: return on.leadOf(land, line);
            default: return BAD;
        }
    }

    /** One of the PEOPLE, or null where nobody has this number. */
    private Person personAt(int person) {
        return current == null ? null : current.personAt(person);
    }

    private static boolean isCell(int cell) {
        return cell >= 0 && cell < CELLS;
    }

    private static boolean isLand(int land) {
        return land == SOUTH || land == NORTH;
    }

    /** Keeps the line as it is ahead of an ACT; of too many the oldest gives way. */
    private void keepAct() {
        if (actsKept >= ACTS) {
            oldestAct = (oldestAct + 1) % ACTS;
            actsKept--;
        }
        acts[(oldestAct + actsKept) % ACTS].become(line);
        actsKept++;
    }

    // ---- foretold

    public int best(int person, int what) {
        Ground on = current;
        Person one = personAt(person);
        if (on == null || one == null || what < 0 || what > 1) {
            return BAD;
        }
        int cell = on.bestOf(one, line);
        return what == 0 || cell == NONE ? cell : on.leadBehind(one, cell, line);
    }

    public int answer(int a, int b, int what) {
        Ground on = current;
        Person one = personAt(a);
        Person other = personAt(b);
        if (on == null || one == null || other == null || a == b || what < 0 || what > 1) {
            return BAD;
        }
        Line behind = on.lineBehind(one, on.bestOf(one, line), line);
        int cell = on.bestOf(other, behind);
        return what == 0 || cell == NONE ? cell : on.leadBehind(other, cell, behind);
    }

    public int game(int a, int b, int what) {
        Ground on = current;
        Person one = personAt(a);
        Person other = personAt(b);
        if (on == null || one == null || other == null || a == b || what < 0 || what > 1) {
            return BAD;
        }
        int opening = -1;
        int mostLead = on.leadPlayed(one, opening, other, line);
        for (int cell = 0; cell < CELLS; cell++) {
            if (on.mayCross(one, cell, line)) {
                int lead = on.leadPlayed(one, cell, other, line);
                if (lead > mostLead) {
                    opening = cell;
                    mostLead = lead;
                }
            }
        }
        return what == 0 ? opening : mostLead;
    }

    public int held(int land, int worth, int i) {
        Ground on = current;
        if (on == null) {
            return STATE;
        }
        if (!isLand(land) || worth < 0 || worth > 999 || i < -1) {
            return BAD;
        }
        return on.heldCells(land, worth, i, line);
    }

    public int went(int row, int i, int what) {
        Ground on = current;
        if (on == null) {
            return STATE;
        }
        Row told = rowAt(row);
        if (told == null || what < 0 || what > 2) {
            return BAD;
        }
        if (told.isMissing()) {
            return finding(NULL);
        }
        if (!told.hasPlaces(i, WIDTH)) {
            return finding(PLACE);
        }
        if (!told.hasHeights(i)) {
            return BAD;
        }
        if (what == 2) {
            return withoutFinding(line.liesAs(told, i) ? 1 : 0);
        }
        return withoutFinding(on.waysTo(told, i, what == 1, line));
    }

    public int image(int k) {
        if (k < 0 || k >= IMAGES) {
            return BAD;
        }
        if (current == null) {
            return STATE;
        }
        imageGrounds[k] = current;
        imageLines[k].become(line);
        return 1;
    }

    public int restore(int k) {
        if (k < 0 || k >= IMAGES) {
            return BAD;
        }
        if (imageGrounds[k] == null) {
            return STATE;
        }
        current = imageGrounds[k];
        line.become(imageLines[k]);
        actsKept = 0;
        return 1;
    }

    // ---- asked

    public int kind(int person) {
        Person one = personAt(person);
        return one == null ? BAD : one.sort();
    }

    public int as(int person, int kind) {
        Person one = personAt(person);
        if (one == null || kind < 0 || kind >= KINDS) {
            return BAD;
        }
        if (!isOne(one, kind)) {
            return finding(NO_SUCH_KIND);
        }
        return withoutFinding(one.number);
    }

    public int ask(int person, int what) {
        Person one = personAt(person);
        if (one == null || what < 0 || what > 1) {
            return BAD;
        }
        trace.begin();
        return what == 0 ? one.size(trace) : one.mark(trace);
    }

    public int trace(int i) {
        return i < 0 || i >= trace.size ? NONE : trace.numbers[i];
    }

    public int count(int what) {
        Ground on = current;
        switch (what) {
            case 0: return rowsThere();
            case 1: return on == null ? 0 : on.people;
            case 2: return line.size;
            case 3: return on == null ? 0 : on.villages;
            case 4: return actsKept;
            case 5: return on == null ? 0 : on.cellsGuarded();
            case 6: return tape.size;
            default: return BAD;
        }
    }

    public int status() {
        return latestFinding;
    }

    private static boolean isOne(Person one, int kind) {
        switch (kind) {
            case 0: return true;
            case Aunt.SORT: return one instanceof Aunt;
            case Envoy.SORT: return one instanceof Envoy;
            case Twin.SORT: return one instanceof Twin;
            case Child.SORT: return one instanceof Child;
            case Monk.SORT: return one instanceof Monk;
            default: return false;
        }
    }

    private int rowsThere() {
        int there = 0;
        for (int i = 0; i < ROWS; i++) {
            if (!rows[i].isMissing()) {
                there++;
            }
        }
        return there;
    }

    /** A ROW; its room is made once, since a run may begin ROWS at every call. */
    private static final class Row {
        final int[] items = new int[ITEMS];
        int lane = MISSING;
        int size = 0;

        boolean isMissing() {
            return lane == MISSING;
        }

        void begin(int newLane, int n) {
            lane = newLane;
            size = Math.max(0, Math.min(n, ITEMS));
            for (int i = 0; i < size; i++) {
                items[i] = 0;
            }
        }

        boolean hasPlaces(int i, int n) {
            return i >= 0 && n >= 0 && i <= size - n;
        }

        int keep(int i, int v) {
            items[i] = lane == 0 ? (byte) v : lane == 1 ? (short) v : v;
            return items[i];
        }

        /** Whether the ITEMS from i on tell of each column a number of its CELLS. */
        boolean hasHeights(int i) {
            for (int x = 0; x < WIDTH; x++) {
                if (items[i + x] < 0 || items[i + x] > HEIGHT) {
                    return false;
                }
            }
            return true;
        }
    }

    /** THE TAPE, and what reads a GROUND from it, TOKEN by TOKEN, up to the first FAULT. */
    private static final class Tape {
        private static final int BYTES = 400, FIGURES = 3;
        private static final int END = 0, NAME = 1, NUMBER = 2, SIGN = 3, NO_TOKEN = 4;
        private static final int OUT_OF_PLACE = 1, NOT_AS_TOLD = 2, NO_ROOM = 3;

        final int[] bytes = new int[BYTES];
        final int[] told = new int[4];
        int size = 0;
        int fault = 0;
        int place = 0;
        private int sort = END;
        private int start = 0;
        private int end = 0;
        private int value = 0;

        boolean take(long w, int n) {
            if (n > BYTES - size) {
                return false;
            }
            for (int i = n - 1; i >= 0; i--) {
                bytes[size] = (int) (w >> 8 * i) & 255;
                size++;
            }
            return true;
        }

        /** The GROUND that the tape tells, or null: fault and place then say why not. */
        Ground readGround() {
            Ground next = new Ground();
            end = 0;
            step();
            boolean stands = readPosts(next) && readVillages(next) && readGuards(next)
                    && readPeople(next) && (sort == END || fails(OUT_OF_PLACE));
            size = 0;
            return stands ? next : null;
        }

        private boolean readPosts(Ground next) {
            if (!(word("posts") && number(0, 0, 5) && number(1, 0, 5) && number(2, 1, 6)
                    && sign())) {
                return false;
            }
            next.west = told[0];
            next.east = told[1];
            next.keeps = told[2];
            return true;
        }

        private boolean readVillages(Ground next) {
            for (int n = 0; n <= VILLAGES && isWord("village"); n++) {
                if (n == VILLAGES) {
                    return fails(NO_ROOM);
                }
                step();
                if (!(number(0, 0, WIDTH - 1) && number(1, 0, HEIGHT - 1) && number(2, 1, 99)
                        && sign())) {
                    return false;
                }
                next.addVillage(told[0], told[1], told[2]);
            }
            return true;
        }

        private boolean readGuards(Ground next) {
            for (int n = 0; n <= GUARDS && isWord("guard"); n++) {
                if (n == GUARDS) {
                    return fails(NO_ROOM);
                }
                step();
                if (!(number(0, 0, WIDTH - 1) && number(1, 0, HEIGHT - 1) && sign())) {
                    return false;
                }
                next.guarded[WIDTH * told[1] + told[0]] = true;
            }
            return true;
        }

        private boolean readPeople(Ground next) {
            for (int n = 0; n <= PEOPLE && isWord("person"); n++) {
                if (n == PEOPLE) {
                    return fails(NO_ROOM);
                }
                step();
                int kind = kindTold();
                if (kind == 0) {
                    return fails(OUT_OF_PLACE);
                }
                step();
                if (!(number(3, SOUTH, NORTH) && number(0, 0, WIDTH - 1) && number(1, 0, HEIGHT - 1)
                        && number(2, 0, 13) && sign())) {
                    return false;
                }
                next.addPerson(kind, told[3], WIDTH * told[1] + told[0], told[2]);
            }
            return true;
        }

        /** The KIND that the TOKEN names, or 0. */
        private int kindTold() {
            return isWord("aunt") ? Aunt.SORT
                    : isWord("envoy") ? Envoy.SORT
                    : isWord("twin") ? Twin.SORT
                    : isWord("child") ? Child.SORT
                    : isWord("monk") ? Monk.SORT : 0;
        }

        private boolean word(String word) {
            if (!isWord(word)) {
                return fails(OUT_OF_PLACE);
            }
            step();
            return true;
        }

        private boolean number(int i, int least, int most) {
            if (sort != NUMBER) {
                return fails(OUT_OF_PLACE);
            }
            if (value < least || value > most) {
                return fails(NOT_AS_TOLD);
            }
            told[i] = value;
            step();
            return true;
        }

        private boolean sign() {
            if (sort != SIGN) {
                return fails(OUT_OF_PLACE);
            }
            step();
            return true;
        }

        private boolean fails(int number) {
            fault = number;
            place = start;
            return false;
        }

        private boolean isWord(String word) {
            if (sort != NAME || end - start != word.length()) {
                return false;
            }
            for (int i = 0; i < word.length(); i++) {
                if (bytes[start + i] != word.charAt(i)) {
                    return false;
                }
            }
            return true;
        }

        /** Goes on to the next TOKEN. */
        private void step() {
            start = end;
            while (start < size && isBlank(bytes[start])) {
                start++;
            }
            end = start;
            if (start >= size) {
                sort = END;
            } else if (isLetter(bytes[start])) {
                stepOverName();
            } else if (isFigure(bytes[start])) {
                stepOverNumber();
            } else {
                sort = bytes[start] == ';' ? SIGN : NO_TOKEN;
                end = start + 1;
            }
        }

        private void stepOverName() {
            while (end < size && isLetter(bytes[end])) {
                end++;
            }
            sort = NAME;
        }

        private void stepOverNumber() {
            value = 0;
            while (end < size && isFigure(bytes[end])) {
                value = 10 * value + bytes[end] - '0';
                end++;
            }
            sort = end - start <= FIGURES ? NUMBER : NO_TOKEN;
        }

        private static boolean isBlank(int b) {
            return b == 32 || b == 10;
        }

        private static boolean isLetter(int b) {
            return b >= 'a' && b <= 'z';
        }

        private static boolean isFigure(int b) {
            return b >= '0' && b <= '9';
        }
    }

    /** THE LINE: its CORNERS, and where it lies between the posts by them. */
    private static final class Line {
        /** A twin's two CORNERS come ahead of what goes: KEEPS and two, one of a column at most. */
        private static final int ROOM = 8;

        final int[] corners = new int[ROOM];
        final boolean[] byChild = new boolean[ROOM];
        int size = 0;
        /** Of each column how many CELLS the south has, and from which y on the north has all. */
        final int[] south = new int[WIDTH];
        final int[] north = new int[WIDTH];

        void begin(Ground on) {
            size = 0;
            lay(on.west, on.east);
        }

        void become(Line other) {
            size = other.size;
            System.arraycopy(other.corners, 0, corners, 0, ROOM);
            System.arraycopy(other.byChild, 0, byChild, 0, ROOM);
            System.arraycopy(other.south, 0, south, 0, WIDTH);
            System.arraycopy(other.north, 0, north, 0, WIDTH);
        }

        /** One CROSSES to a CELL to which he may. */
        void move(Person one, int cell, Ground on) {
            if (one instanceof Monk) {
                return;
            }
            add(cell, one instanceof Child);
            if (one instanceof Twin) {
                add(mirrored(cell), false);
            }
            for (int n = size; n > on.keeps; n--) {
                remove(whichGoes());
            }
            lay(on.west, on.east);
        }

        private static int mirrored(int cell) {
            return cell - cell % WIDTH + (WIDTH - 1 - cell % WIDTH);
        }

        private void add(int cell, boolean madeByChild) {
            int sameColumn = cornerIn(cell % WIDTH);
            if (sameColumn >= 0) {
                remove(sameColumn);
            }
            if (size < ROOM) {
                corners[size] = cell;
                byChild[size] = madeByChild;
                size++;
            }
        }

        private void remove(int gone) {
            for (int i = gone + 1; i < size; i++) {
                corners[i - 1] = corners[i];
                byChild[i - 1] = byChild[i];
            }
            size--;
        }

        /** The number of the oldest CORNER that a child made, else of the oldest. */
        private int whichGoes() {
            for (int i = 0; i < size; i++) {
                if (byChild[i]) {
                    return i;
                }
            }
            return 0;
        }

        /** The number of the CORNER with this x, or -1. */
        private int cornerIn(int x) {
            for (int i = 0; i < size; i++) {
                if (corners[i] % WIDTH == x) {
                    return i;
                }
            }
            return -1;
        }

        boolean isCorner(int cell) {
            int corner = cornerIn(cell % WIDTH);
            return corner >= 0 && corners[corner] == cell;
        }

        private void lay(int west, int east) {
            int fromX = -1;
            int fromY = west;
            for (int x = 0; x < WIDTH; x++) {
                int corner = cornerIn(x);
                if (corner >= 0) {
                    int y = corners[corner] / WIDTH;
                    layBetween(fromX, fromY, x, y);
                    fromX = x;
                    fromY = y;
                }
            }
            layBetween(fromX, fromY, WIDTH, east);
        }

        /** In whole numbers, as no height below 0 comes in and cutting then is rounding down. */
        private void layBetween(int fromX, int fromY, int toX, int toY) {
            int wide = toX - fromX;
            if (wide <= 0) {
                return;
            }
            for (int x = fromX + 1; x <= toX && x < WIDTH; x++) {
                int high = fromY * wide + (toY - fromY) * (x - fromX);
                south[x] = (high + wide - 1) / wide;
                north[x] = high / wide + 1;
            }
        }

        int ownerOf(int cell) {
            int x = cell % WIDTH;
            int y = cell / WIDTH;
            return y < south[x] ? SOUTH : y >= north[x] ? NORTH : NOBODY;
        }

        /** Whether the south has of each column what the ITEMS from i on tell. */
        boolean liesAs(Row told, int i) {
            for (int x = 0; x < WIDTH; x++) {
                if (south[x] != told.items[i + x]) {
                    return false;
                }
            }
            return true;
        }
    }

    /** What a text told of a ground, and what is foretold on it; the line is kept beside it. */
    private static final class Ground {
        int west = 0;
        int east = 0;
        int keeps = 1;
        final int[] worths = new int[CELLS];
        final boolean[] guarded = new boolean[CELLS];
        int villages = 0;
        final Person[] persons = new Person[PEOPLE];
        int people = 0;
        /** Of each column the worth of its CELLS below each y: lines are weighed very often. */
        private final int[][] worthBelow = new int[WIDTH][HEIGHT + 1];
        private final Line guess = new Line();
        private final Line behindFirst = new Line();

        void addVillage(int x, int y, int worth) {
            worths[WIDTH * y + x] += worth;
            for (int above = y + 1; above <= HEIGHT; above++) {
                worthBelow[x][above] += worth;
            }
            villages++;
        }

        void addPerson(int kind, int land, int home, int miles) {
            int number = people;
            if (number >= PEOPLE) {
                return;
            }
            switch (kind) {
                case Aunt.SORT: persons[number] = new Aunt(number, land, home, miles); break;
                case Envoy.SORT: persons[number] = new Envoy(number, land, home, miles); break;
                case Twin.SORT: persons[number] = new Twin(number, land, home, miles); break;
                case Child.SORT: persons[number] = new Child(number, land, home, miles); break;
                default: persons[number] = new Monk(number, land, home, miles); break;
            }
            people++;
        }

        Person personAt(int person) {
            return person < 0 || person >= people ? null : persons[person];
        }

        int cellsGuarded() {
            int cells = 0;
            for (int cell = 0; cell < CELLS; cell++) {
                if (guarded[cell]) {
                    cells++;
                }
            }
            return cells;
        }

        /** HAS of a LAND. */
        int cellsOf(int land, Line at) {
            int cells = 0;
            for (int x = 0; x < WIDTH; x++) {
                cells += land == SOUTH ? at.south[x] : HEIGHT - at.north[x];
            }
            return cells;
        }

        /** WORTH of a LAND. */
        int worthOf(int land, Line at) {
            int worth = 0;
            for (int x = 0; x < WIDTH; x++) {
                int[] below = worthBelow[x];
                worth += land == SOUTH ? below[at.south[x]] : below[HEIGHT] - below[at.north[x]];
            }
            return worth;
        }

        /** LEAD of a LAND. */
        int leadOf(int land, Line at) {
            return worthOf(land, at) - worthOf(1 - land, at);
        }

        boolean mayCross(Person one, int cell, Line at) {
            int far = Math.abs(cell % WIDTH - one.home % WIDTH)
                    + Math.abs(cell / WIDTH - one.home / WIDTH);
            return !guarded[cell] && far <= one.reach() && at.ownerOf(cell) != one.land;
        }

        int waysOf(Person one, Line at) {
            int ways = 0;
            for (int cell = 0; cell < CELLS; cell++) {
                if (mayCross(one, cell, at)) {
                    ways++;
                }
            }
            return ways;
        }

        /** The line as it would lie if one CROSSED; good until the next guess. */
        private Line guessed(Person one, int cell, Line at) {
            guess.become(at);
            guess.move(one, cell, this);
            return guess;
        }

        int leadBehind(Person one, int cell, Line at) {
            return leadOf(one.land, guessed(one, cell, at));
        }

        /** BEST of one: the CELL, or NONE. */
        int bestOf(Person one, Line at) {
            int best = NONE;
            int mostLead = 0;
            int mostCells = 0;
            for (int cell = 0; cell < CELLS; cell++) {
                if (mayCross(one, cell, at)) {
                    Line behind = guessed(one, cell, at);
                    int lead = leadOf(one.land, behind);
                    int cells = cellsOf(one.land, behind);
                    if (best == NONE || lead > mostLead || lead == mostLead && cells > mostCells) {
                        best = cell;
                        mostLead = lead;
                        mostCells = cells;
                    }
                }
            }
            return best;
        }

        /** The line behind the first one's CROSSING, if there is a CELL; good until the next. */
        Line lineBehind(Person first, int cell, Line at) {
            behindFirst.become(at);
            if (isCell(cell)) {
                behindFirst.move(first, cell, this);
            }
            return behindFirst;
        }

        /** GAME: LEAD of the first one's LAND behind his CELL (or -1) and what the other does. */
        int leadPlayed(Person first, int cell, Person other, Line at) {
            Line behind = lineBehind(first, cell, at);
            int best = bestOf(other, behind);
            boolean goes = best != NONE
                    && leadBehind(other, best, behind) > leadOf(other.land, behind);
            return leadOf(first.land, goes ? guess : behind);
        }

        /** HELD: the i-th CELL, or NONE; of -1, how many there are. */
        int heldCells(int land, int worth, int i, Line at) {
            int found = 0;
            for (int cell = 0; cell < CELLS; cell++) {
                if (isHeld(land, worth, cell, at)) {
                    if (found == i) {
                        return cell;
                    }
                    found++;
                }
            }
            return i == -1 ? found : NONE;
        }

        private boolean isHeld(int land, int worth, int cell, Line at) {
            for (int n = 0; n < people; n++) {
                Person one = persons[n];
                if (one.land != land && mayCross(one, cell, at)
                        && worthOf(land, guessed(one, cell, at)) < worth) {
                    return true;
                }
            }
            return false;
        }

        /** WENT: how many ways there are, or the first of them, or NONE. */
        int waysTo(Row told, int i, boolean first, Line at) {
            int ways = 0;
            for (int n = 0; n < people; n++) {
                for (int cell = 0; cell < CELLS; cell++) {
                    if (mayCross(persons[n], cell, at)
                            && guessed(persons[n], cell, at).liesAs(told, i)) {
                        if (first) {
                            return CELLS * n + cell;
                        }
                        ways++;
                    }
                }
            }
            return first ? NONE : ways;
        }
    }

    /** The numbers that BODIES left, as they began. */
    private static final class Trace {
        final int[] numbers = new int[16];
        int size = 0;

        void begin() {
            size = 0;
        }

        void leave(int number) {
            if (size < numbers.length) {
                numbers[size] = number;
                size++;
            }
        }
    }

    /**
     * One of the PEOPLE. The ASKS end: an aunt's size asks for her mark and no aunt's mark asks
     * for a size; a child's mark asks for its size and no child's size asks for a mark.
     */
    private abstract static class Person {
        final int number;
        final int land;
        final int home;
        final int miles;

        Person(int number, int land, int home, int miles) {
            this.number = number;
            this.land = land;
            this.home = home;
            this.miles = miles;
        }

        abstract int sort();

        int reach() {
            return miles;
        }

        int size(Trace trace) {
            trace.leave(10);
            return miles;
        }

        int mark(Trace trace) {
            trace.leave(20);
            return number;
        }
    }

    private static class Aunt extends Person {
        static final int SORT = 1;

        Aunt(int number, int land, int home, int miles) {
            super(number, land, home, miles);
        }

        int sort() {
            return SORT;
        }

        int size(Trace trace) {
            trace.leave(11);
            int lent = super.size(trace);
            return lent + mark(trace);
        }

        int mark(Trace trace) {
            trace.leave(21);
            return super.mark(trace) + home;
        }
    }

    private static final class Envoy extends Aunt {
        static final int SORT = 2;

        Envoy(int number, int land, int home, int miles) {
            super(number, land, home, miles);
        }

        int sort() {
            return SORT;
        }

        int reach() {
            return 2 * miles;
        }

        int size(Trace trace) {
            trace.leave(12);
            return 0 - super.size(trace);
        }

        int mark(Trace trace) {
            trace.leave(24);
            return 2 * super.mark(trace);
        }
    }

    private static final class Twin extends Aunt {
        static final int SORT = 3;

        Twin(int number, int land, int home, int miles) {
            super(number, land, home, miles);
        }

        int sort() {
            return SORT;
        }

        int mark(Trace trace) {
            trace.leave(22);
            return super.mark(trace) - 1000;
        }
    }

    private static class Child extends Person {
        static final int SORT = 4;

        Child(int number, int land, int home, int miles) {
            super(number, land, home, miles);
        }

        int sort() {
            return SORT;
        }

        int size(Trace trace) {
            trace.leave(13);
            return super.size(trace) - 100;
        }

        int mark(Trace trace) {
            trace.leave(23);
            int lent = super.mark(trace);
            return lent - size(trace);
        }
    }

    private static final class Monk extends Child {
        static final int SORT = 5;

        Monk(int number, int land, int home, int miles) {
            super(number, land, home, miles);
        }

        int sort() {
            return SORT;
        }

        int size(Trace trace) {
            trace.leave(14);
            return 2 * super.size(trace);
        }
    }
}
