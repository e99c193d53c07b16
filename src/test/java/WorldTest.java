import java.util.ArrayList;
import java.util.List;
import java.util.Random;

/** Promises 12 to 41 on rivers drawn by a seed, against World, which tries everything. */
public final class WorldTest {
    private static final int NONE = BridgesAreLent.NONE;

    private final Random random;
    private final BridgesAreLent x = new BridgesAreLent();
    private final List<int[]> found = new ArrayList<>();
    private final List<String> past = new ArrayList<>();
    private String rule = "";
    private final String name;

    private WorldTest(int seed) {
        random = new Random(seed);
        name = "seed " + seed + ": ";
    }

    public static void main(String[] args) {
        for (int seed = 0; seed < 200; seed++) {
            new WorldTest(seed).run();
        }
        Check.finish();
    }

    private int draw(int low, int high) {
        return low + random.nextInt(high - low + 1);
    }

    private void run() {
        Check.river(x, river());
        Check.bridges(x, lines('1', '9', '0'));
        if (x.count(0) > 0) {
            Check.people(x, lines('a', (char) ('a' + x.count(0) - 1), '1'));
        }
        for (int i = 0; i < 60; i++) {
            deed(draw(0, 8));
            if (i % 6 == 5) {
                questions();
            }
        }
    }

    private String river() {
        int banks = draw(2, 8);
        StringBuilder text = new StringBuilder().append(banks);
        int places = random.nextBoolean() ? 99 : 5;
        int widest = random.nextBoolean() ? 9 : 3;
        for (int c = draw(0, 10); c > 0; c--) {
            int one = draw(0, banks - 1);
            int other = (one + draw(1, banks - 1)) % banks;
            text.append(';').append((char) ('a' + one)).append((char) ('a' + other));
            text.append(draw(0, places)).append(':').append(draw(1, widest));
        }
        return text.toString();
    }

    private String lines(char low, char high, char lowest) {
        StringBuilder text = new StringBuilder();
        for (int i = draw(0, 6); i > 0; i--) {
            text.append(text.length() > 0 ? ";" : "");
            text.append((char) draw(low, high)).append((char) draw(lowest, '9'));
        }
        return text.toString();
    }

    /** A deed: its answer, the ROW, and all that it changes or not; and what undo makes of it. */
    private void deed(int kind) {
        if (kind > 7) {
            change();
            return;
        }
        World w = World.of(x, rule);
        String before = Check.things(x);
        w.row = rowNow();
        boolean done = does(kind, w);
        Check.due(name + "things behind deed " + kind, Check.things(x), w.things());
        if (done) {
            past.add(before);
        }
        if (past.size() > 15) {
            past.remove(0);
        }
        Check.due(name + "what can be undone", x.count(10), past.size());
    }

    private boolean does(int kind, World w) {
        int one = draw(-1, Math.max(1, x.count(2)));
        int crossing = draw(NONE, x.count(1));
        switch (kind) {
            case 0, 1, 2:
                return compare("tow " + one + " " + crossing, x.tow(one, crossing), w.tow(one, crossing), w) >= 0;
            case 3:
                int hour = draw(0, 5) == 0 ? NONE : x.count(4) + draw(0, 40);
                return compare("lend " + one + " " + hour, x.lend(one, hour), w.lend(one, hour), w) >= NONE;
            case 4, 5:
                return compare("cross " + one + " " + crossing, x.cross(one, crossing), w.cross(one, crossing), w) >= 0;
            case 6:
                int n = draw(-1, draw(0, 4) == 0 ? 100 : 6);
                return compare("hours " + n, x.hours(n), w.hours(n), w) >= 0;
            default:
                String text = dayText();
                return compare("day " + text, Check.day(x, text), w.day(text), w) > 0;
        }
    }

    private String dayText() {
        StringBuilder text = new StringBuilder();
        for (int i = draw(0, 5); i > 0; i--) {
            text.append(text.length() > 0 ? ";" : "");
            switch (draw(0, 3)) {
                case 0 -> text.append('t').append(draw(0, x.count(2))).append(draw(0, 3) == 0 ? "-" : draw(0, 9));
                case 1 -> text.append('l').append(draw(0, x.count(2))).append(draw(0, 30));
                case 2 -> text.append('c').append((char) draw('a', 'f')).append(draw(0, 9));
                default -> text.append('h').append(draw(0, 9));
            }
        }
        return text.toString();
    }

    /** What is no deed: THE RULE, sheets, undo. */
    private void change() {
        switch (draw(0, 5)) {
            case 0 -> {
                String[] rules = {"", "d", "d/5+u", "l*s-w", "n+b", "(d>9)*5+(s<3)*7", "-d/3+u*9+(w=1)", "99*l", "s/u+w/b"};
                rule = rules[draw(0, rules.length - 1)];
                Check.rule(x, rule);
            }
            case 1 -> x.sheet(draw(0, 2), draw(0, 6), draw(-300, 300), draw(-300, 300));
            default -> {
                int due = past.isEmpty() ? NONE : past.size() - 1;
                Check.due(name + "undo", x.undo(), due);
                if (due != NONE) {
                    Check.due(name + "undo: things", Check.things(x), past.remove(due));
                }
            }
        }
    }

    private long[] rowNow() {
        long[] row = new long[x.count(11)];
        for (int i = 0; i < row.length; i++) {
            row[i] = x.row(i);
        }
        return row;
    }

    /** The answer that is due. */
    private long compare(String what, long got, long want, World w) {
        Check.due(name + what, got, want);
        Check.row(name + what, x, w.row);
        return want;
    }

    private void questions() {
        World w = World.of(x, rule);
        w.row = rowNow();
        String before = Check.things(x);
        ways(w);
        layouts(w);
        chances(w);
        thefts(w);
        compare("home", x.home(), w.home(), w);
        Check.due(name + "questions change nothing", Check.things(x), before);
    }

    private void ways(World w) {
        for (int i = 0; i < 4; i++) {
            int p = draw(-1, x.count(3));
            int to = draw(-1, x.count(0));
            compare("route " + p + " " + to, x.route(p, to), w.route(p, to), w);
            compare("soonest " + p + " " + to, x.soonest(p, to), w.soonest(p, to), w);
            compare("joined " + to, x.joined(to), w.joined(to), w);
        }
        int p = draw(0, Math.max(0, x.count(3) - 1));
        int to = draw(0, x.count(0) - 1);
        compare("moves " + p + " " + to, x.moves(p, to), w.moves(p, to), w);
        compare("needed", x.needed(), w.needed(), w);
        Check.due(name + "pairs", x.count(13), w.pairs(w.open(0)));
    }

    private void layouts(World w) {
        int those = draw(-1, 1 << x.count(1));
        compare("lays " + those, x.lays(those), w.lays(those), w);
        int banks = draw(-1, 1 << x.count(0));
        compare("joins " + banks, x.joins(banks), w.joins(banks), w);
        int few = 1 << draw(0, x.count(0) - 1) | 1 << draw(0, x.count(0) - 1);
        compare("joins " + few, x.joins(few), w.joins(few), w);
        compare("night", x.night(), w.night(), w);
        StringBuilder errands = new StringBuilder();
        for (int i = draw(1, 3); i > 0; i--) {
            int one = draw(0, x.count(0) - 1);
            int other = (one + draw(1, x.count(0) - 1)) % x.count(0);
            errands.append(errands.length() > 0 ? "," : "").append((char) ('a' + one)).append((char) ('a' + other));
        }
        compare("errands " + errands, Check.errands(x, errands.toString()), w.errands(errands.toString()), w);
        int v = draw(-1, 10);
        compare("flood " + v, x.flood(v), w.flood(v), w);
        compare("highest", x.highest(), w.highest(), w);
        for (int n = -1; n <= 4; n++) {
            compare("worst " + n, x.worst(n), w.worst(n), w);
        }
    }

    private void chances(World w) {
        int b = draw(-1, x.count(2));
        int p = draw(-1, 11);
        int n = draw(-1, draw(0, 5) == 0 ? 13 : 5);
        int c = draw(-1, x.count(1));
        compare("drift " + b + " " + p + " " + n + " " + c, x.drift(b, p, n, c), w.drift(b, p, n, c), w);
        compare("seek " + b + " " + p + " " + n, x.seek(b, p, n), w.seek(b, p, n), w);
        int seed = random.nextInt();
        int nights = draw(0, 61);
        compare("years " + seed + " " + nights, x.years(seed, nights), w.years(seed, nights), w);
    }

    private void thefts(World w) {
        int what = draw(0, 3);
        int v = draw(0, what == 3 ? 1 : what == 2 ? 6 : 9);
        int[] find = {what, v, draw(0, 1)};
        boolean room = found.size() < 12;
        if (room) {
            found.add(find);
        }
        Check.due(name + "found", x.found(find[0], find[1], find[2]), room ? found.size() : NONE);
        compare("stolen", x.stolen(), w.stolen(found), w);
        compare("ask", x.ask(), w.ask(found), w);
        if (draw(0, 2) == 0) {
            Check.due(name + "forget", x.forget(), found.size());
            found.clear();
        }
    }
}
