/** Numbers and texts at, just inside and just outside what a call takes. */
final class Edges {
    static final int NONE = BridgesAreLent.NONE;
    static final int LOWEST = Integer.MIN_VALUE;
    static final int GREATEST = Integer.MAX_VALUE;
    static final String DIGITS = "0123456789";
    static final String FROM_1 = "123456789";

    private Edges() {
    }

    interface Of {
        long answer(int v);
    }

    interface Reading {
        int answer(BridgesAreLent x);
    }

    interface Making {
        BridgesAreLent object();
    }

    interface Ranging {
        long answer(BridgesAreLent x, int v);
    }

    interface Calling {
        long answer(BridgesAreLent x);
    }

    /** Each number from low to high is taken. */
    static void taken(String what, int low, int high, Of call) {
        for (int v = low; v <= high; v++) {
            Check.due(what + " of " + v + " is taken", call.answer(v) != NONE, true);
        }
    }

    /** Numbers just outside, and those farthest outside, are answered so, and change nothing of a new object. */
    static void outside(String what, Making make, int low, int high, Ranging call, long want) {
        int[] numbers = {low - 1, high + 1, LOWEST, GREATEST, LOWEST + 1, 256 + low, 65536 + low, -256 + low};
        for (int v : numbers) {
            if (v < low || v > high) {
                BridgesAreLent x = make.object();
                Check.refused(what + " of " + v, x, () -> call.answer(x, v), want);
            }
        }
    }

    /** Of numbers just outside, and of those farthest outside, there is nothing to be told. */
    static void missing(String what, int low, int high, Of call) {
        for (int v : new int[] {low - 1, high + 1, LOWEST, GREATEST}) {
            Check.missing(what + " of " + v, () -> call.answer(v));
        }
    }

    /** A text whose sign at a place can't stand there: nothing changes, but THE TEXT is empty. */
    static void at(BridgesAreLent x, Reading call, String text, int place) {
        Check.write(x, text);
        Check.refused("\"" + text + "\"", x, () -> call.answer(x), -1 - place);
        Check.due("\"" + text + "\": THE TEXT is empty", x.count(12), 0);
    }

    /** Behind these signs some can stand, and each other one of all 256 can't. */
    static void signs(Making make, Reading call, String ahead, String some) {
        for (char next = 0; next < 256; next++) {
            BridgesAreLent x = Check.write(make.object(), ahead + next);
            boolean refused = call.answer(x) == -1 - ahead.length();
            Check.due("behind \"" + ahead + "\" sign " + (int) next + " is refused", refused, some.indexOf(next) < 0);
        }
    }

    /** The same of a new object. */
    static void at(Making make, Reading call, String text, int place) {
        at(make.object(), call, text, place);
    }

    /** A text that is taken: what is answered; THE TEXT is empty then. */
    static void takes(BridgesAreLent x, Reading call, String text, int want) {
        Check.write(x, text);
        Check.due("\"" + text + "\"", call.answer(x), want);
        Check.due("\"" + text + "\": THE TEXT is empty", x.count(12), 0);
    }
}
