/** Long runs of calls, made from a counted seed, answered by the program as by the model. */
public final class ModelTests {
    private static final int RUNS = 700, CALLS = 512;
    private static final String[] SORTS = {"aunt", "envoy", "child", "monk", "twin"};
    private static final int[] EDGES = {Integer.MIN_VALUE, -1000015, -1000001, -2, -1, 0, 1, 6, 7,
        8, 39, 40, 41, 47, 48, 127, 128, 255, 999, 1000, 32768, Integer.MAX_VALUE - 7,
        Integer.MAX_VALUE};

    private long seed = 0;
    private BorderBeds program = null;
    private Model model = null;
    private String call = "";
    private int due = 0;
    private int calls = 0;
    private int got = 0;

    public static void main(String[] args) {
        int wrong = 0;
        for (int run = 1; run <= RUNS && wrong < 10; run++) {
            wrong += new ModelTests().run(run) ? 0 : 1;
        }
        System.out.println(RUNS + " runs beside the model, " + wrong + " wrong");
        if (wrong != 0) {
            System.exit(1);
        }
    }

    private int upTo(int n) {
        seed = seed * 6364136223846793005L + 1442695040888963407L;
        return (int) Math.floorMod(seed >>> 33, (long) n);
    }

    /** Mostly a number from 0 to n - 1, at times one a little beyond, at times an edge. */
    private int about(int n) {
        int how = upTo(24);
        return how == 0 ? EDGES[upTo(EDGES.length)] : how == 1 ? upTo(n + 3) - 1 : upTo(n);
    }

    private boolean run(int number) {
        seed = 7919L * number;
        program = new BorderBeds();
        model = new Model();
        int dearest = 0;
        for (int n = 0; calls < CALLS - 60; n++) {
            int sort = n == 1 ? 0 : upTo(40);
            if (sort == 0) {
                readText();
            } else {
                dearest += sort == 20 ? 1 : 0;
                callOnce(sort == 20 && dearest > 6 ? 21 : sort);
            }
            if (got != due) {
                System.out.println("run " + number + ", call " + calls + ": " + call + " answered "
                        + got + ", due is " + due);
                return false;
            }
        }
        return true;
    }

    private void is(String name, int answer, int wanted) {
        calls++;
        if (got == due) {
            call = name;
            got = answer;
            due = wanted;
        }
    }

    private void readText() {
        String text = text();
        if (upTo(4) == 0) {
            text = spoilt(text);
        }
        for (int i = 0; i < text.length(); i += 8) {
            long w = upTo(9);
            int n = Math.min(8, text.length() - i);
            for (int k = 0; k < n; k++) {
                w = w << 8 | text.charAt(i + k) & 255;
            }
            is("feed(" + w + ", " + n + ")", program.feed(w, n), model.feed(w, n));
        }
        is("ground() of '" + text + "'", program.ground(), model.ground());
        is("fault() of '" + text + "'", program.fault(), model.fault());
    }

    private String text() {
        StringBuilder t = new StringBuilder();
        t.append("posts ").append(upTo(6)).append(' ').append(upTo(6)).append(' ')
                .append(1 + upTo(6)).append(';');
        for (int n = upTo(upTo(5) == 0 ? 10 : 6); n > 0; n--) {
            t.append("village ").append(upTo(8)).append(' ').append(upTo(6)).append(' ')
                    .append(1 + upTo(upTo(2) == 0 ? 3 : 99)).append(';');
        }
        for (int n = upTo(upTo(5) == 0 ? 10 : 4); n > 0; n--) {
            t.append(" guard ").append(upTo(8)).append(' ').append(upTo(6)).append(";\n");
        }
        for (int n = upTo(6) + (upTo(9) == 0 ? 1 : 0); n > 0; n--) {
            t.append("person ").append(SORTS[upTo(5)]).append(' ').append(upTo(2)).append(' ')
                    .append(upTo(8)).append(' ').append(upTo(6)).append(' ')
                    .append(upTo(3) == 0 ? 13 : upTo(14)).append(';');
        }
        return t.toString();
    }

    private String spoilt(String text) {
        StringBuilder t = new StringBuilder(text);
        String signs = "0189az;; \n\tA?-" + (char) 200 + (char) 0;
        for (int n = 1 + upTo(2); n > 0 && t.length() > 0; n--) {
            int at = upTo(t.length());
            int how = upTo(4);
            if (how == 0) {
                t.deleteCharAt(at);
            } else if (how == 1) {
                t.insert(at, signs.charAt(upTo(signs.length())));
            } else if (how == 2) {
                t.setCharAt(at, signs.charAt(upTo(signs.length())));
            } else {
                t.setLength(at);
            }
        }
        return t.toString();
    }

    private void callOnce(int sort) {
        if (sort < 8) {
            callRows(sort);
        } else if (sort < 18) {
            callNights(sort);
        } else if (sort < 30) {
            callForetold(sort);
        } else {
            callAsked(sort);
        }
    }

    private void callRows(int sort) {
        int a = about(8) & (upTo(30) == 0 ? -1 : 3);
        int b = about(8) & (upTo(30) == 0 ? -1 : 3);
        int i = about(upTo(2) == 0 ? 12 : 40);
        int j = about(12);
        int n = about(upTo(2) == 0 ? 9 : 41);
        int lane = about(3);
        if (sort < 3) {
            is("row(" + a + ", " + lane + ", " + n + ")", program.row(a, lane, n),
                    model.row(a, lane, n));
        } else if (sort < 5) {
            int v = upTo(3) == 0 ? about(70000) : about(6);
            is("set(" + a + ", " + i + ", " + v + ")", program.set(a, i, v), model.set(a, i, v));
        } else if (sort < 7) {
            is("copy(" + a + ", " + i + ", " + b + ", " + j + ", " + n + ")",
                    program.copy(a, i, b, j, n), model.copy(a, i, b, j, n));
        } else {
            is("drop(" + a + ")", program.drop(a), model.drop(a));
        }
    }

    private void callNights(int sort) {
        int who = about(5);
        int cell = about(48);
        int what = about(4);
        if (sort < 14) {
            if (upTo(2) == 0 && model.best(who, 0) >= 0) {
                cell = model.best(who, 0);
            }
            is("cross(" + who + ", " + cell + ")", program.cross(who, cell),
                    model.cross(who, cell));
        } else if (sort == 14) {
            is("undo()", program.undo(), model.undo());
        } else if (sort == 15) {
            is("person(" + who + ", " + what + ")", program.person(who, what),
                    model.person(who, what));
        } else if (sort == 16) {
            is("cell(" + cell + ", " + what + ")", program.cell(cell, what),
                    model.cell(cell, what));
        } else {
            int land = about(2);
            is("land(" + land + ", " + what + ")", program.land(land, what),
                    model.land(land, what));
        }
    }

    private void callForetold(int sort) {
        int a = about(5);
        int b = about(5);
        int what = about(2);
        if (sort == 18) {
            is("best(" + a + ", " + what + ")", program.best(a, what), model.best(a, what));
        } else if (sort == 19) {
            is("answer(" + a + ", " + b + ", " + what + ")", program.answer(a, b, what),
                    model.answer(a, b, what));
        } else if (sort == 20) {
            is("game(" + a + ", " + b + ", " + what + ")", program.game(a, b, what),
                    model.game(a, b, what));
        } else if (sort < 24) {
            int land = about(2);
            int worth = about(upTo(2) == 0 ? 60 : 1000);
            int i = about(20) - 1;
            is("held(" + land + ", " + worth + ", " + i + ")", program.held(land, worth, i),
                    model.held(land, worth, i));
        } else if (sort < 28) {
            callWent();
        } else {
            int k = about(2);
            if (upTo(2) == 0) {
                is("image(" + k + ")", program.image(k), model.image(k));
            } else {
                is("restore(" + k + ")", program.restore(k), model.restore(k));
            }
        }
    }

    /** Half of the time a ROW is made ahead that tells how the line lies behind a CROSSING. */
    private void callWent() {
        int row = about(8) & 3;
        int i = about(3);
        if (upTo(2) == 0 && model.count(1) > 0) {
            int[] souths = model.souths(upTo(model.count(1)), upTo(48));
            is("row(0, 0, 10)", program.row(0, 0, 10), model.row(0, 0, 10));
            for (int x = 0; x < 8; x++) {
                int south = souths[x];
                is("set(0, " + (x + 1) + ", " + south + ")", program.set(0, x + 1, south),
                        model.set(0, x + 1, south));
            }
            row = 0;
            i = 1;
        }
        for (int what = 0; what < 3; what++) {
            is("went(" + row + ", " + i + ", " + what + ")", program.went(row, i, what),
                    model.went(row, i, what));
        }
        int what = about(3);
        is("went(" + row + ", " + i + ", " + what + ")", program.went(row, i, what),
                model.went(row, i, what));
    }

    private void callAsked(int sort) {
        int a = about(5);
        int what = about(2);
        int kind = about(6);
        int i = about(7);
        if (sort == 30) {
            is("kind(" + a + ")", program.kind(a), model.kind(a));
        } else if (sort < 33) {
            is("as(" + a + ", " + kind + ")", program.as(a, kind), model.as(a, kind));
        } else if (sort < 35) {
            is("ask(" + a + ", " + what + ")", program.ask(a, what), model.ask(a, what));
        } else if (sort == 35) {
            is("trace(" + i + ")", program.trace(i), model.trace(i));
        } else if (sort < 38) {
            is("count(" + i + ")", program.count(i), model.count(i));
        } else {
            is("status()", program.status(), model.status());
        }
    }
}
