import java.util.NoSuchElementException;
import java.util.Random;

/** All calls with arguments of every kind: none throws but where the document says so, and refused ones change nothing. */
public final class FuzzTest {
    private static final int NONE = BridgesAreLent.NONE;
    private static final int SHEET = 6;
    private static final int LEND = 9;

    /** What one object is asked: with the texts, and the looks at its end, well below 512 calls. */
    private static final int STEPS = 40;

    private final Random random;
    private final BridgesAreLent x = new BridgesAreLent();
    /** Does all that was not refused, and nothing else. */
    private final BridgesAreLent twin = new BridgesAreLent();
    private final String name;

    private FuzzTest(int seed) {
        random = new Random(seed);
        name = "seed " + seed + ": ";
    }

    public static void main(String[] args) {
        for (int seed = 0; seed < 2500; seed++) {
            new FuzzTest(seed).run();
        }
        Check.finish();
    }

    private int number() {
        switch (random.nextInt(8)) {
            case 0:
                return random.nextInt();
            case 1:
                return Integer.MIN_VALUE + random.nextInt(2);
            case 2:
                return Integer.MAX_VALUE - random.nextInt(2);
            case 3:
                return random.nextInt(130) - 10;
            case 4:
                return 1 << random.nextInt(32);
            default:
                return random.nextInt(11) - 1;
        }
    }

    private void write() {
        String[] texts = {Check.RIVER, "8;ah99:9;bg0:1;cf50:5", "2;ab0:1", "53;49;36", "99", "a4;c2", "a9", "t01;h9;ca0", "h99",
            "l09;t2-", "d/9+u", "(s<3)*9", "ab,cd", "ab", "", "x", "t00;t11;t22;h9"};
        String text = texts[random.nextInt(texts.length)];
        Check.write(x, text);
        Check.write(twin, text);
        if (random.nextInt(9) == 0) {
            int four = number();
            x.sign(four);
            twin.sign(four);
        }
    }

    /** A start that most calls need, told to most objects. */
    private void begin() {
        if (random.nextInt(9) > 0) {
            for (BridgesAreLent each : new BridgesAreLent[] {x, twin}) {
                Check.river(each, Check.RIVER);
                Check.bridges(each, Check.BRIDGES);
                Check.people(each, Check.PEOPLE);
                Check.day(each, "t01;t10;h9");
            }
        }
    }

    private void run() {
        begin();
        for (int i = 0; i < STEPS; i++) {
            write();
            int call = random.nextInt(42);
            if (call >= 38) {
                shown(call);
            } else {
                int[] v = {number(), number(), number(), number()};
                long answer = answer(x, call, v);
                if (!isRefusal(call, answer)) {
                    Check.due(name + "the same call " + call + " of a twin", answer(twin, call, v), answer);
                }
            }
        }
        Check.due(name + "refused calls change something", Check.sight(x), Check.sight(twin));
        sane();
    }

    /** Of answers below 0 those of a loan that was none, and of a missing sheet, are none. */
    private static boolean isRefusal(int call, long answer) {
        if (call == LEND) {
            return answer < NONE;
        }
        return answer < 0 && !(call == SHEET && answer == -3);
    }

    private static long answer(BridgesAreLent o, int call, int[] v) {
        return switch (call) {
            case 0 -> o.sign(v[0]);
            case 1 -> o.end(v[0]) ? 0 : NONE;
            case 2 -> o.river();
            case 3 -> o.bridges();
            case 4 -> o.people();
            case 5 -> o.rule();
            case SHEET -> o.sheet(v[0], v[1], v[2], v[3]);
            case 7 -> o.takes(v[0], v[1]);
            case 8 -> o.tow(v[0], v[1]);
            case LEND -> o.lend(v[0], v[1]);
            case 10 -> o.cross(v[0], v[1]);
            case 11 -> o.hours(v[0]);
            case 12 -> o.day();
            case 13 -> o.undo();
            case 14 -> o.route(v[0], v[1]);
            case 15 -> o.joined(v[0]);
            case 16 -> o.soonest(v[0], v[1]);
            case 17 -> o.moves(v[0], v[1]);
            case 18 -> o.needed();
            case 19 -> o.lays(v[0]);
            case 20 -> o.joins(v[0]);
            case 21 -> o.night();
            case 22 -> o.errands();
            case 23 -> o.flood(v[0]);
            case 24 -> o.highest();
            case 25 -> o.worst(v[0]);
            case 26 -> o.drift(v[0], v[1], v[2], v[3]);
            case 27 -> o.seek(v[0], v[1], v[2]);
            case 28 -> o.found(v[0], v[1], v[2]);
            case 29 -> o.forget();
            case 30 -> o.stolen();
            case 31 -> o.ask();
            case 32 -> o.share(v[0], v[1], v[2], v[3]);
            case 33 -> o.turn(v[0], v[1], v[2]);
            case 34 -> o.rests(v[0]);
            case 35 -> o.home();
            case 36 -> o.years(v[0], v[1]);
            default -> v[1] % 2 == 0 ? (o.keep(v[0]) ? 0 : NONE) : o.again(v[0]) ? 0 : NONE;
        };
    }

    private long shown(int call) {
        try {
            return switch (call) {
                case 38 -> x.crossing(number(), number());
                case 39 -> x.bridge(number(), number());
                case 40 -> x.person(number(), number());
                default -> x.row(number());
            };
        } catch (NoSuchElementException e) {
            return NONE;
        }
    }

    /** What holds of every state. */
    private void sane() {
        Check.due(name + "counts", x.count(number() | 16), -100);
        for (int b = 0; b < x.count(2); b++) {
            int where = x.bridge(b, 2);
            int yet = x.bridge(b, 3);
            Check.due(name + "sound", x.bridge(b, 1) >= 0 && x.bridge(b, 1) <= 9, true);
            Check.due(name + "hours yet", yet >= 0 && yet <= 99, true);
            Check.due(name + "lent behind now", x.bridge(b, 4) == NONE || x.bridge(b, 4) > x.count(4), true);
            if (where != NONE) {
                Check.due(name + "one alone at a crossing", x.crossing(where, yet == 0 ? 4 : 5), b);
                Check.due(name + "none towed to one with a bridge", x.crossing(where, yet == 0 ? 5 : 4), NONE);
                Check.due(name + "long enough", x.crossing(where, 3) <= x.bridge(b, 0), true);
            }
        }
    }
}
