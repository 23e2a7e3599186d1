import java.lang.reflect.Method;
import java.lang.reflect.Modifier;
import java.util.List;

/** How an object is used: its constants, 512 calls, several objects, any numbers at all. */
final class UseSentences extends Sentences {
    private static final int[] NUMBERS = {MIN, MIN + 1, -1000001, -129, -2, -1, 0, 1, 2, 3, 4, 5, 6,
        7, 8, 39, 40, 41, 47, 48, 127, 400, 999, 1000, 65536, MAX - 7, MAX};

    static void all() throws ReflectiveOperationException {
        constants();
        manyNights();
        manyRows();
        manyGrounds();
        objectsShareNothing();
        anyNumbers();
    }

    private static void constants() {
        holds("The public face", "public static final int NONE = -1000000, BAD = -1000001, STATE ="
                + " -1000002, FULL = -1000003;");
        is("NONE", BorderBeds.NONE, -1000000);
        is("BAD", BorderBeds.BAD, -1000001);
        is("STATE", BorderBeds.STATE, -1000002);
        is("FULL", BorderBeds.FULL, -1000003);
    }

    /** Four calls tell the text, one reads it; the last of 24 undone is call 511. */
    private static void manyNights() {
        holds("What it is", "An object is used for at most 512 calls after it has been made");
        BorderBeds x = new BorderBeds();
        feed(x, "posts0 0 1;person aunt0 0 0 0;");
        is("ground()", x.ground(), 1);
        for (int call = 6; call <= 487; call++) {
            is("call " + call + ": cross(0, 0)", x.cross(0, 0), 1);
        }
        for (int call = 488; call <= 511; call++) {
            is("call " + call + ": undo()", x.undo(), 511 - call);
        }
        is("call 512: undo()", x.undo(), STATE);
    }

    private static void manyRows() {
        holds("What it is", "An object is used for at most 512 calls after it has been made");
        BorderBeds x = new BorderBeds();
        for (int call = 1; call <= 511; call++) {
            is("call " + call + ": row(" + call % 8 + ", 2, 40)", x.row(call % 8, 2, 40), 40);
        }
        is("call 512: set(7, 39, -1)", x.set(7, 39, -1), -1);
    }

    private static void manyGrounds() {
        holds("What it is", "An object is used for at most 512 calls after it has been made");
        BorderBeds x = new BorderBeds();
        for (int call = 3; call <= 510; call += 3) {
            int height = call % 6;
            feed(x, "posts" + height + " " + height + " 1;");
            is("call " + call + ": ground()", x.ground(), 0);
        }
        is("call 511: cell(0, 0)", x.cell(0, 0), -1);
        is("call 512: land(1, 0)", x.land(1, 0), 40);
    }

    private static void objectsShareNothing() {
        holds("Promise 1", "No GROUND.");
        String text = "posts 2 2 6;village 3 3 9;person aunt 0 3 3 0;";
        BorderBeds x = on(text);
        BorderBeds y = new BorderBeds();
        is("ground() of the other one", y.ground(), -1000100);
        is("fault() of the one", x.fault(), 0);
        is("cell(0, 0) of the other one", y.cell(0, 0), STATE);
        read(y, text);
        crosses(x, 0, 27, 1);
        x.image(0);
        x.row(0, 0, 8);
        x.set(1, 0, 0);
        x.ask(0, 1);
        feed(x, "?");
        is("count(0)", y.count(0), 0);
        is("count(2)", y.count(2), 0);
        is("count(4)", y.count(4), 0);
        is("count(6)", y.count(6), 0);
        is("land(0, 0)", y.land(0, 0), 16);
        is("restore(0)", y.restore(0), STATE);
        is("status()", y.status(), 0);
        is("trace(0)", y.trace(0), NONE);
        is("fault()", y.fault(), 1);
    }

    /** Every call with odd numbers: none throws, and every answer lies where answers lie. */
    private static void anyNumbers() throws ReflectiveOperationException {
        holds("Terms", "Refusals are answers");
        for (Method m : BorderBeds.class.getDeclaredMethods()) {
            for (int state = 0; Modifier.isPublic(m.getModifiers()) && state < 3; state++) {
                anyNumbers(state, m);
            }
        }
    }

    private static BorderBeds inState(int state) {
        BorderBeds x = new BorderBeds();
        if (state == 1) {
            read(x, FLAT);
        } else if (state == 2) {
            read(x, "posts 2 3 3;village 3 3 5;guard 5 5;person twin 0 3 0 13;"
                    + "person monk 1 0 5 9;person child 0 7 0 13;person envoy 1 5 5 2;");
            x.row(0, 2, 40);
            x.row(1, 2, 8);
        }
        return x;
    }

    /** An object is left ahead of its call 512. */
    private static void anyNumbers(int state, Method m) throws ReflectiveOperationException {
        Class<?>[] of = m.getParameterTypes();
        int[] one = {0};
        int calls = 0;
        BorderBeds x = inState(state);
        for (int first : of.length < 1 ? one : NUMBERS) {
            for (int second : of.length < 2 ? one : NUMBERS) {
                for (int third : of.length < 3 ? one : NUMBERS) {
                    calls++;
                    x = calls % 400 == 0 ? inState(state) : x;
                    anyNumbers(x, m, first, second, third, second, third);
                }
            }
        }
    }

    private static void anyNumbers(BorderBeds x, Method m, int... numbers)
            throws ReflectiveOperationException {
        Class<?>[] of = m.getParameterTypes();
        Object[] told = new Object[of.length];
        for (int n = 0; n < of.length; n++) {
            if (of[n] == long.class) {
                told[n] = (long) numbers[n];
            } else {
                told[n] = numbers[n];
            }
        }
        int got = (int) m.invoke(x, told);
        boolean isAny = m.getName().equals("set");
        is("whether " + m.getName() + List.of(told) + " gives an answer: " + got,
                isAny || got > -100000 && got < 100000 || isTold(got) ? 1 : 0, 1);
    }

    private static boolean isTold(int answer) {
        return answer <= NONE && answer >= FULL || answer <= NULL && answer >= STORE
                || answer <= -1000100 && answer >= -1000500;
    }
}
