import java.util.NoSuchElementException;

/** What all tests share: comparing, writing texts, and seeing all of an object that can be seen. */
final class Check {
    /** The river of most tests: a - b - c - d, and a - d above them all. */
    static final String RIVER = "4;ab10:3;bc30:4;cd50:2;ad5:5";
    static final String BRIDGES = "53;49;36";
    static final String PEOPLE = "a4;c2";

    private static int asked;
    private static int wrong;
    private static String about = "";

    private Check() {
    }

    interface Call {
        long answer();
    }

    /** What the answers that follow are about, told ahead of each that is not as due. */
    static void about(String words) {
        about = words + ": ";
    }

    static void fail(String what) {
        wrong++;
        System.out.println(about + what);
    }

    static void due(String what, long got, long want) {
        asked++;
        if (got != want) {
            fail(what + " answered " + got + ", due is " + want);
        }
    }

    static void due(String what, boolean got, boolean want) {
        due(what, got ? 1 : 0, want ? 1 : 0);
    }

    static void due(String what, String got, String want) {
        asked++;
        if (!got.equals(want)) {
            fail(what + ":\n  got    " + got + "\n  due is " + want);
        }
    }

    /** An answer and the ROW that it tells. */
    static void due(String what, BridgesAreLent x, long got, long want, long... row) {
        due(what, got, want);
        row(what, x, row);
    }

    static void row(String what, BridgesAreLent x, long... want) {
        due(what + ": numbers of the row", x.count(11), want.length);
        for (int i = 0; i < want.length && i < x.count(11); i++) {
            due(what + ": row " + i, x.row(i), want[i]);
        }
        missing(what + ": behind the row", () -> x.row(want.length));
        missing(what + ": ahead of the row", () -> x.row(-1));
    }

    static void missing(String what, Call call) {
        asked++;
        try {
            long got = call.answer();
            fail(what + " answered " + got + ", due is NoSuchElementException");
        } catch (NoSuchElementException e) {
            return;
        }
    }

    /** A call that answers so and changes nothing. */
    static void refused(String what, BridgesAreLent x, Call call, long want) {
        String before = glance(x);
        due(what, call.answer(), want);
        due(what + " changes something", glance(x), before);
    }

    static BridgesAreLent write(BridgesAreLent x, String text) {
        x.end(0);
        for (int i = 0; i < text.length(); i += 4) {
            int four = 0;
            for (int j = i; j < i + 4; j++) {
                four = four << 8 | (j < text.length() ? text.charAt(j) : 0);
            }
            x.sign(four);
        }
        x.end(text.length());
        return x;
    }

    static int river(BridgesAreLent x, String text) {
        return write(x, text).river();
    }

    static int bridges(BridgesAreLent x, String text) {
        return write(x, text).bridges();
    }

    static int people(BridgesAreLent x, String text) {
        return write(x, text).people();
    }

    static int rule(BridgesAreLent x, String text) {
        return write(x, text).rule();
    }

    static int day(BridgesAreLent x, String text) {
        return write(x, text).day();
    }

    static int errands(BridgesAreLent x, String text) {
        return write(x, text).errands();
    }

    static BridgesAreLent object(String river, String bridges, String people) {
        BridgesAreLent x = new BridgesAreLent();
        river(x, river);
        bridges(x, bridges);
        people(x, people);
        return x;
    }

    /** BRIDGE i is at the CROSSING told i-th (NONE: THE SHED); it is HOUR 1 then. */
    static BridgesAreLent laid(String river, String bridges, String people, int... where) {
        BridgesAreLent x = object(river, bridges, "");
        rule(x, "1");
        for (int b = 0; b < where.length; b++) {
            if (where[b] != BridgesAreLent.NONE && x.tow(b, where[b]) != 1) {
                throw new IllegalStateException("bridge " + b + " can't be laid");
            }
        }
        x.hours(1);
        rule(x, "");
        people(x, people);
        return x;
    }

    static String times(String part, int n) {
        return part.repeat(n);
    }

    /** What a call could change, told by few calls: an object is good for 512 of them. */
    static String glance(BridgesAreLent x) {
        StringBuilder all = new StringBuilder();
        for (int what = 0; what <= 11; what++) {
            all.append(what).append('=').append(x.count(what)).append(' ');
        }
        int row = x.count(11);
        for (int i = 0; i < row; i++) {
            all.append("| row ").append(x.row(i));
        }
        int bridges = x.count(2);
        for (int b = 0; b < bridges; b++) {
            all.append("| bridge");
            for (int what = 1; what <= 4; what++) {
                all.append(' ').append(x.bridge(b, what));
            }
        }
        int people = x.count(3);
        for (int p = 0; p < people; p++) {
            all.append("| person ").append(x.person(p, 0));
        }
        return all.toString();
    }

    /** All that can be seen of an object but THE TEXT. */
    static String sight(BridgesAreLent x) {
        StringBuilder all = new StringBuilder();
        for (int what = 0; what <= 13; what++) {
            if (what != 12) {
                all.append(what).append('=').append(x.count(what)).append(' ');
            }
        }
        int crossings = x.count(1);
        for (int c = 0; c < crossings; c++) {
            all.append("| crossing");
            for (int what = 0; what <= 5; what++) {
                all.append(' ').append(x.crossing(c, what));
            }
        }
        int row = x.count(11);
        for (int i = 0; i < row; i++) {
            all.append("| row ").append(x.row(i));
        }
        return all.append(things(x)).toString();
    }

    /** Where BRIDGES and PEOPLE are, SOUND, LOANS, BROKEN ones, NOW. */
    static String things(BridgesAreLent x) {
        StringBuilder all = new StringBuilder();
        int bridges = x.count(2);
        for (int b = 0; b < bridges; b++) {
            all.append("| bridge");
            for (int what = 0; what <= 4; what++) {
                all.append(' ').append(x.bridge(b, what));
            }
        }
        int people = x.count(3);
        for (int p = 0; p < people; p++) {
            all.append("| person ").append(x.person(p, 0)).append(' ').append(x.person(p, 1));
        }
        return all.append("| now ").append(x.count(4)).append(" broken ").append(x.count(8)).toString();
    }

    static void finish() {
        System.out.println(asked + " answers, " + wrong + " of them not as due");
        if (wrong != 0) {
            System.exit(1);
        }
    }
}
