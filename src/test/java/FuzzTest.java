import java.util.NoSuchElementException;
import java.util.Random;

/** All calls with arguments of every kind: none throws but where the document says so, and refused ones change nothing. */
public final class FuzzTest {
    private static final int NONE = BridgesAreLent.NONE;

    private final Random random;
    private final BridgesAreLent x = new BridgesAreLent();
    private final String name;

    private FuzzTest(int seed) {
        random = new Random(seed);
        name = "seed " + seed + ": ";
    }

    public static void main(String[] args) {
        for (int seed = 0; seed < 300; seed++) {
            new FuzzTest(seed).run();
        }
        Check.finish();
    }

    private int number() {
        switch (random.nextInt(8)) {
            case 0:
                return random.nextInt();
            case 1:
                return Integer.MIN_VALUE + random.nextInt(2);
            case 2:
                return Integer.MAX_VALUE - random.nextInt(2);
            case 3:
                return random.nextInt(130) - 10;
            case 4:
                return 1 << random.nextInt(32);
            default:
                return random.nextInt(11) - 1;
        }
    }

    private void write() {
        String[] texts = {Check.RIVER, "8;ah99:9;bg0:1;cf50:5", "2;ab0:1", "53;49;36", "99", "a4;c2", "a9", "t01;h9;ca0", "h99",
            "l09;t2-", "d/9+u", "(s<3)*9", "ab,cd", "ab", "", "x", "t00;t11;t22;h9"};
        Check.write(x, texts[random.nextInt(texts.length)]);
        if (random.nextInt(9) == 0) {
            x.sign(number());
        }
    }

    private void run() {
        for (int i = 0; i < 250; i++) {
            write();
            int call = random.nextInt(42);
            String before = Check.sight(x);
            long answer = call < 38 ? answer(call) : shown(call);
            if (answer == NONE && call != 9) {
                Check.due(name + "refused call " + call + " changes something", Check.sight(x), before);
            }
            sane();
        }
    }

    private long answer(int call) {
        int a = number();
        int b = number();
        int c = number();
        int d = number();
        return switch (call) {
            case 0 -> x.sign(a);
            case 1 -> x.end(a) ? 0 : NONE;
            case 2 -> x.river();
            case 3 -> x.bridges();
            case 4 -> x.people();
            case 5 -> x.rule();
            case 6 -> x.sheet(a, b, c, d);
            case 7 -> x.takes(a, b);
            case 8 -> x.tow(a, b);
            case 9 -> x.lend(a, b);
            case 10 -> x.cross(a, b);
            case 11 -> x.hours(a);
            case 12 -> x.day();
            case 13 -> x.undo();
            case 14 -> x.route(a, b);
            case 15 -> x.joined(a);
            case 16 -> x.soonest(a, b);
            case 17 -> x.moves(a, b);
            case 18 -> x.needed();
            case 19 -> x.lays(a);
            case 20 -> x.joins(a);
            case 21 -> x.night();
            case 22 -> x.errands();
            case 23 -> x.flood(a);
            case 24 -> x.highest();
            case 25 -> x.worst(a);
            case 26 -> x.drift(a, b, c, d);
            case 27 -> x.seek(a, b, c);
            case 28 -> x.found(a, b, c);
            case 29 -> x.forget();
            case 30 -> x.stolen();
            case 31 -> x.ask();
            case 32 -> x.share(a, b, c, d);
            case 33 -> x.turn(a, b, c);
            case 34 -> x.rests(a);
            case 35 -> x.home();
            case 36 -> x.years(a, b);
            default -> x.keep(a) || x.again(b) ? 0 : NONE;
        };
    }

    private long shown(int call) {
        try {
            return switch (call) {
                case 38 -> x.crossing(number(), number());
                case 39 -> x.bridge(number(), number());
                case 40 -> x.person(number(), number());
                default -> x.row(number());
            };
        } catch (NoSuchElementException e) {
            return NONE;
        }
    }

    /** What holds of every state. */
    private void sane() {
        Check.due(name + "counts", x.count(number() | 16), -100);
        for (int b = 0; b < x.count(2); b++) {
            int where = x.bridge(b, 2);
            int yet = x.bridge(b, 3);
            Check.due(name + "sound", x.bridge(b, 1) >= 0 && x.bridge(b, 1) <= 9, true);
            Check.due(name + "hours yet", yet >= 0 && yet <= 99, true);
            Check.due(name + "lent behind now", x.bridge(b, 4) == NONE || x.bridge(b, 4) > x.count(4), true);
            if (where != NONE) {
                Check.due(name + "one alone at a crossing", x.crossing(where, yet == 0 ? 4 : 5), b);
                Check.due(name + "none towed to one with a bridge", x.crossing(where, yet == 0 ? 5 : 4), NONE);
                Check.due(name + "long enough", x.crossing(where, 3) <= x.bridge(b, 0), true);
            }
        }
    }
}
